/** What tests by hand have in common: calls that are told texts, and answers held against those that are due. */
abstract class Calls {
    static final Due DUE = new Due();
    static final String LONGEST = "abcdefghijklmnopqrstuvwx";
    private static String sentence = "";

    /** The sentence of the document that the answers from here on are held against. */
    static void says(String words) {
        sentence = words + ": ";
    }

    static int told(PageTrie x, String text) {
        return Due.feed(x, text);
    }

    static int orders(PageTrie x, String text) {
        return x.orders(told(x, text));
    }

    static int batch(PageTrie x, String text) {
        return x.batch(told(x, text));
    }

    static int put(PageTrie x, String key, int value) {
        return x.put(told(x, key), value);
    }

    static int take(PageTrie x, String key) {
        return x.take(told(x, key));
    }

    static int query(PageTrie x, String steps) {
        int n = steps.isEmpty() ? 0 : told(x, steps);
        return x.query(n);
    }

    static void is(String call, long got, long want) {
        DUE.is(sentence + call, got, want);
    }

    static void is(String call, boolean got, boolean want) {
        DUE.is(sentence + call, got, want);
    }

    static int value(PageTrie x, String key) {
        return x.value(told(x, key));
    }

    static int cursor(PageTrie x, int c, String key) {
        return x.cursor(c, told(x, key));
    }

    static PageTrie with(int width, int room, String items) {
        PageTrie x = new PageTrie();
        is("begin", x.begin(width, room), 0);
        orders(x, items);
        return x;
    }

    /** The ENTRIES of the PAGES of a LAYER, as digits of a number. */
    static int pages(PageTrie x, int layer) {
        int all = 0;
        for (int p = 0; x.layer(layer, 10 + p) >= 0; p++) {
            all = all * 10 + x.layer(layer, 10 + p);
        }
        return all;
    }

    /** FOUND, as the VALUES of its KEYS, which are digits. */
    static int found(PageTrie x) {
        int all = 0;
        for (int i = 0; x.foundAt(i) >= 0; i++) {
            all = all * 10 + x.key(x.foundAt(i), -2);
        }
        return all;
    }

    static String starting(char sign, int from) {
        StringBuilder items = new StringBuilder();
        for (int i = 0; i < 20; i++) {
            items.append(i == 0 ? "+" : ";+").append(sign).append((char) (from + i)).append("=1");
        }
        return items.toString();
    }

    /** 150 KEYS of two BYTES, aA to aT, .., gA to gT, xA to xJ, each with VALUE 1. */
    static PageTrie full() {
        PageTrie x = new PageTrie();
        for (char sign = 'a'; sign < 'h'; sign++) {
            is("orders of 20", orders(x, starting(sign, 'A')), 20);
        }
        is("orders of 10", orders(x, starting('x', 'A').substring(0, 59)), 10);
        is("150 keys", x.count(0), 150);
        return x;
    }
}
