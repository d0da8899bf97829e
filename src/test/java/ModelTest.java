import java.util.ArrayList;
import java.util.List;

/** Long runs of chance calls, each answer held against the model's; the runs are the same each time. */
public final class ModelTest {
    private static final int CALLS = 512;
    private static final String ITEM_SIGNS = "+-~;=,ab019 \u007f\u00e9";
    private static final String STEP_SIGNS = "p><leokdtr;;019,~ ";

    private final Due due;
    private final int run;
    private final PageTrie trie = new PageTrie();
    private final Model model = new Model();
    private final StringBuilder calls = new StringBuilder();
    private long seed;
    private int left = CALLS;
    private final String signs;
    private final int longest;
    private final int style;

    private ModelTest(Due due, int run) {
        this.due = due;
        this.run = run;
        seed = run * 7919L + 17;
        String[] alphabets = {"ab", "abc", "a", "!}abcxyzABC0159+-", "ab}"};
        signs = alphabets[chance(alphabets.length)];
        longest = new int[] {3, 6, 9, 14, 24, 24}[chance(6)];
        style = chance(4);
    }

    private int chance(int bound) {
        seed = seed * 6364136223846793005L + 1442695040888963407L;
        return (int) ((seed >>> 33) % bound);
    }

    private String anyKey() {
        String known = model.values.isEmpty() ? "" : new ArrayList<>(model.values.keySet())
            .get(chance(model.values.size()));
        int kind = chance(8);
        if (kind < 3 && !known.isEmpty()) {
            return known;
        }
        StringBuilder key = new StringBuilder();
        if (kind < 7 && !known.isEmpty()) {
            key.append(known, 0, 1 + chance(known.length()));
        }
        int most = chance(12) == 0 ? 24 : longest;
        int more = chance(most) + (key.length() == 0 ? 1 : 0);
        for (int k = 0; k < more && key.length() < 24; k++) {
            key.append(signs.charAt(chance(signs.length())));
        }
        return key.toString();
    }

    private String number() {
        int kind = chance(6);
        String text = kind == 0 ? "00000" : kind == 1 ? "99999" : Integer.toString(chance(kind < 4 ? 10 : 99999));
        return kind == 5 ? text.substring(0, 1) : text;
    }

    private String spoilt(String text, String by, int odds) {
        if (chance(odds) > 0 || text.isEmpty()) {
            return text;
        }
        int at = chance(text.length() + 1);
        String sign = String.valueOf(by.charAt(chance(by.length())));
        int kind = chance(4);
        if (kind == 0) {
            return text.substring(0, at);
        }
        if (kind == 1) {
            return text.substring(0, at) + sign + text.substring(at);
        }
        if (kind == 2) {
            return text + ";";
        }
        return text.substring(0, at) + sign + text.substring(Math.min(text.length(), at + 1));
    }

    private String itemsText() {
        StringBuilder text = new StringBuilder();
        int items = chance(10) == 0 ? 20 + chance(3) : 1 + chance(20);
        for (int i = 0; i < items; i++) {
            String key = anyKey();
            int kind = chance(20);
            boolean takes = style == 0 ? kind < 5 : style == 1 ? kind < 10 : style == 2 ? kind < 15 : kind < 1;
            String item = takes ? "-" + key : kind == 19 ? "~" + key + "," + anyKey() : "+" + key + "=" + number();
            if (items > 19) {
                item = "+" + key.substring(0, 1) + "=1";
            }
            if (text.length() + item.length() < 200) {
                text.append(text.length() == 0 ? "" : ";").append(item);
            }
        }
        String spoilt = spoilt(text.toString(), ITEM_SIGNS, 6);
        return spoilt.length() > 200 ? spoilt.substring(0, 200) : spoilt;
    }

    private String stepsText() {
        StringBuilder text = new StringBuilder();
        int steps = chance(12) == 0 ? 8 + chance(3) : chance(6);
        for (int i = 0; i < steps; i++) {
            char kind = "p><leokdtrdtk".charAt(chance(13));
            String step = String.valueOf(kind);
            if (kind == 'p') {
                String key = anyKey();
                step += key.substring(0, Math.min(key.length(), 1 + chance(3)));
            } else if ("><".indexOf(kind) >= 0) {
                step += number();
            } else if ("lkdt".indexOf(kind) >= 0) {
                step += chance(kind == 't' ? 60 : 5);
            }
            if (text.length() + step.length() < 60) {
                text.append(text.length() == 0 ? "" : ";").append(step);
            }
        }
        String spoilt = spoilt(text.toString(), STEP_SIGNS, 5);
        return spoilt.length() > 60 ? spoilt.substring(0, 60) : spoilt;
    }

    private void is(String call, long got, long want) {
        boolean wasWrong = due.isWrong();
        calls.append(call).append(" = ").append(got).append('\n');
        due.is("run " + run + ": " + call, got, want);
        left--;
        if (due.isWrong() && !wasWrong) {
            System.out.print("the calls of run " + run + ":\n" + calls);
        }
    }

    private void feedWords(int[] w) {
        String call = "feed(" + w[0] + ", " + w[1] + ", " + w[2] + ", " + w[3] + ", " + w[4] + ")";
        is(call, trie.feed(w[0], w[1], w[2], w[3], w[4]), model.feed(w));
    }

    /** A text comes to the tape, which is emptied ahead by a call, where it holds something. */
    private int told(String text) {
        if (model.tape.length() > 0 && chance(20) > 0) {
            is("query(0)", trie.query(0), model.query(0));
        }
        for (int from = 0; from < text.length(); from += 20) {
            feedWords(Due.words(text, from, chance(2) == 0 ? 'a' : ' '));
        }
        int kind = chance(60);
        return kind == 0 ? -1 : kind == 1 ? text.length() + 1 : kind == 2 ? 25 : kind == 3 ? 0 : text.length();
    }

    private int toldKey() {
        return told(spoilt(anyKey(), ";=,~ \u007f\u0000!", 25));
    }

    private void mutate() {
        int n;
        switch (chance(9)) {
            case 0:
                n = toldKey();
                int value = chance(30) == 0 ? -1 + chance(2) * 100001 : Integer.parseInt(number());
                is("put(" + n + ", " + value + ")", trie.put(n, value), model.put(n, value));
                break;
            case 1:
                n = toldKey();
                is("take(" + n + ")", trie.take(n), model.take(n));
                break;
            case 2:
            case 3:
                n = told(itemsText());
                is("batch(" + n + ")", trie.batch(n), model.batch(n));
                break;
            default:
                n = told(itemsText());
                is("orders(" + n + ")", trie.orders(n), model.orders(n));
                break;
        }
    }

    private void askByKey() {
        int n = toldKey();
        int what = chance(6) - 1;
        switch (chance(6)) {
            case 0:
                is("value(" + n + ")", trie.value(n), model.value(n));
                break;
            case 1:
                is("rank(" + n + ")", trie.rank(n), model.rank(n));
                break;
            case 2:
                is("near(" + n + ", " + what + ")", trie.near(n, what), model.near(n, what));
                break;
            case 3:
                is("begins(" + n + ", " + what + ")", trie.begins(n, what), model.begins(n, what));
                break;
            case 4:
                is("cursor(" + what + ", " + n + ")", trie.cursor(what, n), model.cursor(what, n));
                break;
            default:
                is("check(" + n + ")", trie.check(n), model.check(n));
                break;
        }
    }

    private int anyNumber() {
        return chance(15) == 0 ? chance(200) - 20 : chance(Math.max(1, model.values.size()));
    }

    private void askShape() {
        int layers = model.count(3);
        int l = chance(20) == 0 ? -1 + chance(2) * (layers + 1) : chance(layers);
        int e = chance(20) == 0 ? -1 : chance(1 + Math.max(0, model.layer(l, 1)));
        int what = chance(16) == 0 ? chance(60) - 5 : chance(4) == 0 ? 10 + chance(6) : chance(5);
        switch (chance(6)) {
            case 0:
                is("count(" + (what + 2) + ")", trie.count(what + 2), model.count(what + 2));
                break;
            case 1:
                is("full(" + what + ")", trie.full(what), model.full(what));
                break;
            case 2:
                is("layer(" + l + ", " + what + ")", trie.layer(l, what), model.layer(l, what));
                break;
            case 3:
                what = chance(6) == 0 ? 20 + chance(24) : what;
                is("entry(" + l + ", " + e + ", " + what + ")", trie.entry(l, e, what), model.entry(l, e, what));
                break;
            case 4:
                int w = chance(10);
                int r = chance(10);
                int told = chance(16);
                is("tried(" + w + ", " + r + ", " + told + ")", trie.tried(w, r, told), model.tried(w, r, told));
                break;
            default:
                int b = chance(3);
                is("best(" + b + ")", trie.best(b), model.best(b));
                break;
        }
    }

    private void askKeys() {
        int i = anyNumber();
        int k = chance(29) - 4;
        int what = chance(4) - 1;
        switch (chance(5)) {
            case 0:
                is("key(" + i + ", -3)", trie.key(i, -3), model.key(i, -3));
                break;
            case 1:
                is("key(" + i + ", " + k + ")", trie.key(i, k), model.key(i, k));
                break;
            case 2:
                int j = anyNumber();
                is("alike(" + i + ", " + j + ")", trie.alike(i, j), model.alike(i, j));
                break;
            case 3:
                is("closest(" + what + ")", trie.closest(what), model.closest(what));
                break;
            default:
                is("unlike(" + what + ")", trie.unlike(what), model.unlike(what));
                break;
        }
    }

    private void goCursor() {
        int c = chance(20) == 0 ? 4 : chance(4);
        int what = chance(4) == 0 ? chance(38) - 2 : chance(4);
        boolean isForth = chance(3) > 0;
        if (chance(2) == 0) {
            is("step(" + c + ", " + isForth + ")", trie.step(c, isForth), model.step(c, isForth));
        } else {
            is("cursorIs(" + c + ", " + what + ")", trie.cursorIs(c, what), model.cursorIs(c, what));
        }
    }

    private void askFound() {
        int what = chance(8) - 1;
        switch (chance(5)) {
            case 0:
                int n = told(stepsText());
                is("query(" + n + ")", trie.query(n), model.query(n));
                break;
            case 1:
            case 2:
                is("found(" + what + ")", trie.found(what), model.found(what));
                break;
            default:
                int i = chance(2) == 0 ? what : anyNumber();
                is("foundAt(" + i + ")", trie.foundAt(i), model.foundAt(i));
                break;
        }
    }

    private void rare() {
        switch (chance(6)) {
            case 0:
                if (chance(8) == 0) {
                    int w = chance(10);
                    int r = chance(8) + 1;
                    is("begin(" + w + ", " + r + ")", trie.begin(w, r), model.begin(w, r));
                }
                break;
            case 1:
                is("keep()", trie.keep(), model.keep());
                break;
            case 2:
                is("undo()", trie.undo() ? 1 : 0, model.undo() ? 1 : 0);
                break;
            case 3:
                if (model.found(0) < 20 && model.found(0) * 3 < model.values.size() || chance(12) == 0) {
                    is("takeFound()", trie.takeFound(), model.takeFound());
                }
                break;
            default:
                int kind = chance(5) - 1;
                int v = chance(9) == 0 ? -1 + chance(2) * 100001 : chance(2) == 0 ? chance(9) : chance(100000);
                is("change(" + kind + ", " + v + ")", trie.change(kind, v), model.change(kind, v));
                break;
        }
    }

    /** Many keys come at first, so that layers of many pages and a full index are met. */
    private void fill() {
        int wanted = chance(3) == 0 ? 160 : 40 + chance(100);
        for (int turn = 0; turn < 16 && model.values.size() < wanted; turn++) {
            StringBuilder text = new StringBuilder();
            for (int i = 0; i < 20; i++) {
                StringBuilder key = new StringBuilder(anyKey());
                key.setLength(Math.min(key.length(), 5 + chance(3)));
                while (model.values.containsKey(key.toString()) && key.length() < 7) {
                    key.append(signs.charAt(chance(signs.length())));
                }
                String item = "+" + key + "=" + chance(10);
                if (text.length() + item.length() < 200) {
                    text.append(i == 0 ? "" : ";").append(item);
                }
            }
            int n = told(text.toString());
            is("orders(" + n + ")", trie.orders(n), model.orders(n));
        }
    }

    private void go() {
        int w = run % 9 == 0 ? 4 : 1 + chance(8);
        int r = 2 + chance(7);
        is("begin(" + w + ", " + r + ")", trie.begin(w, r), model.begin(w, r));
        if (style >= 2) {
            fill();
        }
        for (int c = 0; c < 4 && !due.isWrong(); c++) {
            int n = told(anyKey());
            is("cursor(" + c + ", " + n + ")", trie.cursor(c, n), model.cursor(c, n));
        }
        // some 18 calls at most come of one turn; what is left keeps the object below its 512th
        while (left > 20 && !due.isWrong()) {
            int kind = chance(24);
            if (kind < 5) {
                mutate();
            } else if (kind < 7) {
                askByKey();
            } else if (kind < 12) {
                askShape();
            } else if (kind < 15) {
                askKeys();
            } else if (kind < 19) {
                goCursor();
            } else if (kind < 22) {
                askFound();
            } else {
                rare();
            }
        }
        for (int what = -1; what <= 16; what++) {
            is("count(" + what + ")", trie.count(what), model.count(what));
        }
    }

    public static void main(String[] args) {
        Due due = new Due();
        int runs = 1500;
        List<Integer> sizes = new ArrayList<>();
        for (int run = 0; run < runs && !due.isWrong(); run++) {
            ModelTest test = new ModelTest(due, run);
            test.go();
            sizes.add(test.model.values.size());
        }
        due.end("ModelTest");
    }
}
