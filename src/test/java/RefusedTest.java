import java.util.function.ToIntFunction;

/** What the section 'Terms' says of all calls: what a refused one changes, which reason comes first, what the tape has then. */
public final class RefusedTest extends Calls {
    private static final int EMPTY = 0;
    private static final int STAYS = 40;
    private static final String FULL = "full: ";

    /** KEYS in LAYERS and PAGES, all COUNTERS above 0, two CURSORS, a QUERY; what was KEPT is unlike all that. */
    static PageTrie scene() {
        PageTrie x = new PageTrie();
        x.begin(2, 4);
        orders(x, "+k=1;+kk=2");
        cursor(x, 2, "k");
        query(x, "o");
        x.keep();
        is("PAGES part and join", orders(x, "~k,kk;+a=1;+b=3;+c=1;+d=1;+e=1;-a;-e;-d"), 9);
        is("LAYERS come and go", orders(x, "-c;+aaa=1;+aab=2;+aac=7;+ba=8;+bbx=9;+bby=8;-bby;+zz=9"), 9);
        cursor(x, 0, "aaa");
        cursor(x, 1, "x");
        x.step(0, true);
        x.step(1, false);
        query(x, "e;r");
        for (int what = 9; what <= 12; what++) {
            is("COUNTER " + what, x.count(what) > 0, true);
        }
        return x;
    }

    private static void add(StringBuilder state, int answer) {
        state.append(answer).append(' ');
    }

    /** All that can be asked, but for the tape. */
    static String state(PageTrie x) {
        StringBuilder state = new StringBuilder();
        for (int what = 0; what < 15; what++) {
            add(state, x.count(what));
        }
        for (int i = 0; i < x.count(0) && i < 8; i++) {
            for (int k = -3; k < 4; k++) {
                add(state, x.key(i, k));
            }
        }
        for (int l = 0; l < x.count(3) && l < 6; l++) {
            add(state, pages(x, l));
        }
        for (int c = 0; c < 4; c++) {
            for (int what = 0; what < 4; what++) {
                add(state, x.cursorIs(c, what));
            }
            add(state, x.cursorIs(c, 10));
        }
        for (int what = 0; what < 3; what++) {
            add(state, x.foundAt(what));
            add(state, x.unlike(what));
        }
        return state.toString();
    }

    /** A call that is told a text on a tape of 40 bytes: what it answers, what the tape has then, all else as it was. */
    private static void refused(String call, String text, ToIntFunction<PageTrie> asked, int answer, int tape) {
        boolean isFull = call.startsWith(FULL);
        PageTrie x = isFull ? full() : scene();
        String before = state(x);
        int fed = told(x, text + "?".repeat(40 - text.length()));
        is(call + ": bytes fed", fed, 40);
        is(call, asked.applyAsInt(x), answer);
        is(call + ": the tape", x.count(15), tape);
        is(call + ": all is as it was", state(x).equals(before), true);
        if (!isFull) {
            PageTrie y = scene();
            is(call + ": UNDONE", x.undo() && y.undo(), true);
            is(call + ": what was KEPT", state(x).equals(state(y)), true);
        }
    }

    private static void tooMany() {
        says("A call that is refused changes nothing but the tape, where it is told");
        PageTrie x = scene();
        String before = state(x);
        told(x, "a".repeat(240));
        is("feed", x.feed(1, 2, 3, 4, 5), -1);
        is("the tape", x.count(15), 240);
        is("all is as it was", state(x).equals(before), true);
    }

    private static void noneSuch() {
        says("A call that is refused (NONE) changes nothing, the tape stays");
        refused("begin", "a", x -> x.begin(0, 4) + x.begin(4, 9), -2, STAYS);
        refused("put, n", "a", x -> x.put(0, 1) + x.put(25, 1) + x.put(41, 1), -3, STAYS);
        refused("put, VALUE", "zz", x -> x.put(2, 100000) + x.put(2, -1), -2, STAYS);
        refused("take", "zz", x -> x.take(0) + x.take(25), -2, STAYS);
        refused("orders", "-zz", x -> x.orders(0) + x.orders(41) + x.orders(201), -3, STAYS);
        refused("batch", "-zz", x -> x.batch(0) + x.batch(41) + x.batch(201), -3, STAYS);
        refused("value, rank", "zz", x -> x.value(25) + x.rank(0), -2, STAYS);
        refused("near", "zz", x -> x.near(25, 0) + x.near(2, 4) + x.near(2, -1), -3, STAYS);
        refused("begins", "zz", x -> x.begins(25, 0) + x.begins(2, 3) + x.begins(2, -1), -3, STAYS);
        refused("cursor", "zz", x -> x.cursor(0, 25) + x.cursor(4, 2) + x.cursor(-1, 2), -3, STAYS);
        refused("query", "o", x -> x.query(-1) + x.query(41) + x.query(61), -3, STAYS);
        refused("step", "zz", x -> x.step(4, true) + x.step(-1, false), -2, STAYS);
        refused("change", "zz", x -> x.change(3, 1) + x.change(-1, 1) + x.change(2, -1) + x.change(2, 100000), -4, STAYS);
        refused("count, full", "zz", x -> x.count(16) + x.full(0) + x.full(9), -3, STAYS);
        refused("key, alike", "zz", x -> x.key(99, 0) + x.key(0, -4) + x.alike(0, 99), -3, STAYS);
        refused("layer, entry", "zz", x -> x.layer(99, 0) + x.layer(0, 4) + x.entry(0, 99, 0) + x.entry(0, 0, 5), -4, STAYS);
        refused("found", "zz", x -> x.found(6) + x.foundAt(-1) + x.closest(2) + x.unlike(3), -4, STAYS);
        refused("tried, best", "zz", x -> x.tried(9, 4, 3) + x.tried(4, 4, 2) + x.best(2), -3, STAYS);
    }

    private static void otherReasons() {
        says("A call that is refused (-2 to -9) changes nothing but the tape");
        refused("put of none", "z,", x -> x.put(2, 1), -2, EMPTY);
        refused("take of none", "zz;", x -> x.take(3), -2, EMPTY);
        refused("take of one not there", "zzz", x -> x.take(3), -3, EMPTY);
        refused("cursor of none", "a=", x -> x.cursor(0, 2), -2, EMPTY);
        refused("value of none", "a=", x -> x.value(2), -2, EMPTY);
        refused("value of one not there", "ab", x -> x.value(2), -3, EMPTY);
        refused("rank of none", "a=", x -> x.rank(2), -2, EMPTY);
        refused("near of none", "a=", x -> x.near(2, 0), -2, EMPTY);
        refused("begins of none", "a=", x -> x.begins(2, 0), -2, EMPTY);
        refused("batch", "+y=1;-b;-aaa;-y;-y", x -> x.batch(18), -7, EMPTY);
        refused("a FAULT of orders", "-zz;-b;-aaa;", x -> x.orders(12), -1012, EMPTY);
        refused("a FAULT of a batch", "-zz;-b;-aaa;", x -> x.batch(12), -1012, EMPTY);
        refused("a FAULT of a query", "o;o;pz;k0", x -> x.query(9), -3008, EMPTY);
        refused("orders, the first", "-y;-zz", x -> x.orders(6), 0, EMPTY);
        refused("step of one not told", "a", x -> x.step(3, true), -4, STAYS);
        refused("check", "aab", x -> x.check(25) + x.check(-1) + x.check(41), -6, STAYS);
        refused("check, right", "aaa", x -> x.check(2), -1, STAYS);
        refused("check, not so", "aad", x -> x.check(3), 2, EMPTY);
        refused(FULL + "put", "zz", x -> x.put(2, 1), -4, EMPTY);
        refused(FULL + "batch", "-aA;+zz=1;+yy=1", x -> x.batch(15), -5, EMPTY);
        refused(FULL + "orders", "+zz=1;-aA", x -> x.orders(9), 0, EMPTY);
        says("A call that is refused (false) changes nothing");
        refused(FULL + "undo", "zz", x -> x.undo() ? 1 : 0, 0, STAYS);
    }

    private static void stepWithout() {
        says("-3: there is none (it stays, nothing is counted)");
        PageTrie x = scene();
        cursor(x, 3, "zz");
        String before = state(x);
        is("forth", x.step(3, true), -3);
        is("all is as it was", state(x).equals(before), true);
        is("the KEY", x.cursorIs(3, 0), x.count(0) - 1);
    }

    private static void reasons() {
        says("Of several reasons NONE comes first");
        refused("no VALUE, no KEY", ";", x -> x.put(1, -1), -1, STAYS);
        refused("no VALUE, no n", ";", x -> x.put(0, -1), -1, STAYS);
        refused("no such what, no KEY", ";", x -> x.near(1, 4) + x.begins(1, 3), -2, STAYS);
        refused("no such CURSOR, no KEY", ";", x -> x.cursor(4, 1), -1, STAYS);
        refused("no such KEY, not so many", "", x -> x.key(99, 24) + x.key(-1, 24), -2, STAYS);
        refused("no such LAYER, not so many", "", x -> x.layer(99, 99) + x.entry(99, 0, 17), -2, STAYS);
        refused("no such ENTRY, not so many", "", x -> x.entry(0, 99, 17) + x.entry(0, 99, 42), -2, STAYS);
        refused(FULL + "no VALUE, and 150", "zz", x -> x.put(2, 100000), -1, STAYS);
        refused(FULL + "no n, and 150", "zz", x -> x.put(25, 1), -1, STAYS);
        refused(FULL + "no what, and nothing KEPT", "", x -> x.unlike(3), -1, STAYS);
        says("-2 ahead of -4");
        refused(FULL + "no KEY, and 150", "z;", x -> x.put(2, 1), -2, EMPTY);
        says("of CURSORS");
        refused("no such one, and not told", "", x -> x.step(4, true), -1, STAYS);
        refused("not told, and no such what", "", x -> x.cursorIs(3, 4) + x.cursorIs(3, 10), -2, STAYS);
    }

    /** What a call answers to a text, and that the tape is empty then. */
    private static void tellsAll(String call, String text, ToIntFunction<PageTrie> asked, int answer) {
        PageTrie x = scene();
        told(x, text + "?".repeat(60 - text.length()));
        is(call + ": the tape", x.count(15), 60);
        is(call, asked.applyAsInt(x), answer);
        is(call + ": the tape is empty", x.count(15), 0);
    }

    private static void theTape() {
        says("Where n bytes of the tape are told, these are its first; it is empty then");
        tellsAll("put", "new", x -> x.put(3, 1), -3);
        tellsAll("put", "zzz", x -> x.put(2, 1), 9);
        tellsAll("take", "zzz", x -> x.take(2), 9);
        tellsAll("orders", "-zz;-zz", x -> x.orders(3), 1);
        tellsAll("batch", "-zz;-zz", x -> x.batch(3), 1);
        tellsAll("value", "zzz", x -> x.value(2), 9);
        tellsAll("rank", "!zz", x -> x.rank(1), 0);
        tellsAll("near", "!zz", x -> x.near(1, 1), 0);
        tellsAll("near, none", "!zz", x -> x.near(1, 0), -3);
        tellsAll("begins", "zzz", x -> x.begins(2, 0), 1);
        tellsAll("begins, none", "zzz", x -> x.begins(3, 1), -3);
        tellsAll("cursor", "zzz", x -> x.cursor(3, 2), 0);
        tellsAll("query", "pz;pb", x -> x.query(2), 1);
        tellsAll("query of no bytes", "pz;pb", x -> x.query(0) * 0, 0);
        tellsAll("check", "b", x -> x.check(1), 0);
        says("it is empty then, unless the call is NONE (whatever for)");
        PageTrie y = scene();
        told(y, "zz");
        is("none such", y.put(2, -1) + y.near(2, 9) + y.cursor(9, 2) + y.value(99) + y.orders(0) + y.query(-1), -6);
        is("the tape", y.count(15), 20);
        is("then told", y.value(2), 9);
    }

    public static void main(String[] args) {
        tooMany();
        noneSuch();
        otherReasons();
        stepWithout();
        reasons();
        theTape();
        DUE.end("RefusedTest");
    }
}
