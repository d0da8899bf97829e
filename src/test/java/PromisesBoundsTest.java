import java.util.function.IntUnaryOperator;

/** The sentences of the promises 1 to 32 that name a boundary: what is due at it, and on both sides of it. */
public final class PromisesBoundsTest extends Calls {
    private static final int MOST = Integer.MAX_VALUE;
    private static final int LEAST = Integer.MIN_VALUE;

    /** Of a what from 0 to last: those beside it, and the ends of all ints, are none such. */
    private static void noneBeside(String call, IntUnaryOperator what, int last) {
        int[] none = {-1, -2, last + 1, last + 2, MOST, LEAST};
        for (int w : none) {
            is(call + " " + w, what.applyAsInt(w), -1);
        }
        is(call + " 0 is one", what.applyAsInt(0) != -1, true);
        is(call + " " + last + " is one", what.applyAsInt(last) != -1, true);
    }

    /** Of a tape of 40 bytes no other number than 1 to 24 is one of a KEY's BYTES. */
    private static void noneToldAs(String call, IntUnaryOperator n) {
        int[] none = {0, -1, 25, 40, 41, MOST, LEAST};
        for (int many : none) {
            is(call + " of " + many, n.applyAsInt(many), -1);
        }
    }

    private static PageTrie forty(String items) {
        PageTrie x = with(4, 4, items);
        is("forty bytes", told(x, "a".repeat(40)), 40);
        return x;
    }

    private static void aNewObject() {
        says("1: No KEYS");
        PageTrie x = new PageTrie();
        is("KEYS", x.count(0), 0);
        is("no KEY 0", x.key(0, -1), -1);
        is("LAYERS, PAGES, ENTRIES", x.count(3) * 100 + x.count(4) * 10 + x.layer(0, 1), 100);
        is("none FOUND", x.found(0) + x.takeFound() + x.change(0, 1), 0);
        is("nothing on the tape", x.count(15), 0);
        is("nothing KEPT", x.undo(), false);
        is("nothing KEPT", x.unlike(0), -2);
        is("none there", value(x, "a"), -3);
        is("none to take", take(x, "a"), -3);
        is("none ahead", x.rank(told(x, "a")), 0);
        is("none near", x.near(told(x, "a"), 0) + x.near(told(x, "a"), 3), -6);
        is("none begins so", x.begins(told(x, "a"), 0) + x.begins(told(x, "a"), 2), 0);
        is("no first one begins so", x.begins(told(x, "a"), 1), -3);
        is("KEPT of none", x.keep(), 0);
        is("UNDONE", x.undo(), true);
    }

    private static void fed() {
        says("2: Twenty bytes come behind the tape: how many it has");
        PageTrie x = new PageTrie();
        for (int i = 1; i <= 12; i++) {
            is("feed", x.feed(0x61616161, 0, 0, 0, 0), 20 * i);
        }
        says("2: NONE if that would be more than 240");
        is("260", x.feed(1, 2, 3, 4, 5), -1);
        is("it stays", x.count(15), 240);
        is("its first bytes, too", put(x, "", 1), -1);
        is("four", x.put(4, 1), -3);
        is("those", x.key(0, -1) * 1000 + x.key(0, 3), 4097);
        says("16: CURSORS are not told");
        PageTrie fresh = new PageTrie();
        is("each", fresh.step(0, true) + fresh.step(1, true) + fresh.step(2, false) + fresh.step(3, false), -16);
        is("each", fresh.cursorIs(0, 1) + fresh.cursorIs(1, 1) + fresh.cursorIs(2, 1) + fresh.cursorIs(3, 1), -4);
        says("2: the highest of each int first");
        x.feed(0x21222324, 0x25262728, 0x7a797877, 0x76757473, 0x2a2b2d2e);
        is("twenty", x.put(20, 2), -3);
        int[] bytes = {0x21, 0x22, 0x23, 0x24, 0x25, 0x26, 0x27, 0x28, 0x7a, 0x79, 0x78, 0x77, 0x76, 0x75, 0x74, 0x73, 0x2a,
            0x2b, 0x2d, 0x2e};
        for (int k = 0; k < 20; k++) {
            is("byte " + k, x.key(0, k), bytes[k]);
        }
        x.feed(0xe1616161, 0, 0, 0, 0);
        is("a highest bit is not lost", x.put(1, 1), -2);
        x.feed(0x61e16161, 0, 0, 0, 0);
        is("nor a lower byte's", x.put(2, 1), -2);
    }

    private static void begun() {
        says("3: all is empty, COUNTERS are 0");
        PageTrie x = with(1, 2, "+aa=1;+ab=2;+b=3;+c=4;-ab");
        x.feed(1, 1, 1, 1, 1);
        is("begin", x.begin(2, 3), 0);
        int[] counts = {0, 2, 3, 1, 0, 0, 0, 0, 1, 0, 0, 0, 0, 8, 0, 0};
        for (int what = 0; what < 16; what++) {
            is("count " + what, x.count(what), counts[what]);
        }
        is("no ENTRIES", x.layer(0, 1) + x.layer(0, 2) + x.layer(0, 3), 0);
        is("no KEY", x.key(0, -1), -1);
        says("3: the QUERY and what was KEPT stay, CURSORS are not told");
        PageTrie y = with(1, 2, "+aa=1;+ab=2");
        query(y, "o");
        for (int c = 0; c < 4; c++) {
            cursor(y, c, "aa");
        }
        y.keep();
        is("begin", y.begin(8, 8), 0);
        for (int c = 0; c < 4; c++) {
            is("not told", y.step(c, true) + y.cursorIs(c, 0), -5);
        }
        orders(y, "+x=3;+y=4");
        is("FOUND", y.found(0) * 10 + y.foundAt(0), 10);
        is("unlike what was KEPT", y.unlike(0) * 10 + y.unlike(1), 22);
        is("UNDONE", y.undo(), true);
        is("as it was KEPT", y.count(0) * 100 + y.count(1) * 10 + y.count(2), 212);
        is("CURSORS are told", y.cursorIs(3, 0), 0);
        says("3: NONE: no such ones");
        int[][] none = {{0, 2}, {9, 2}, {1, 1}, {1, 9}, {LEAST, 4}, {4, MOST}, {0, 0}, {9, 9}};
        for (int[] n : none) {
            is("begin", y.begin(n[0], n[1]), -1);
        }
        is("as it was", y.count(0) * 100 + y.count(1) * 10 + y.count(2), 212);
    }

    private static void putAndTaken() {
        says("4: the VALUE it had (-3: it was not there)");
        PageTrie x = new PageTrie();
        is("new", put(x, "ab", 0), -3);
        is("it had 0", put(x, "ab", 99999), 0);
        is("it had the most", put(x, "ab", 3), 99999);
        is("a beginning of it is new", put(x, "a", 4), -3);
        is("what it begins is new", put(x, "abc", 5), -3);
        says("4: NONE: no such VALUE, n");
        PageTrie y = forty("+a=1");
        noneToldAs("put", n -> y.put(n, 5));
        is("VALUES", y.put(1, -1) + y.put(1, 100000) + y.put(1, MOST) + y.put(1, LEAST), -4);
        is("24 of 40", y.put(24, 5), -3);
        says("4: -2");
        is("a ;", put(y, ";", 1) + put(y, "a;", 1) + put(y, LONGEST.substring(1) + " ", 1), -6);
        says("5: The KEY is TAKEN: its VALUE; -3: it is not there; -2; NONE");
        PageTrie z = forty("+a=0;+ab=7");
        noneToldAs("take", n -> z.take(n));
        is("its VALUE 0", z.take(1), 0);
        is("it is not there", take(z, "a"), -3);
        is("it begins another one", take(z, "a") * 10 + value(z, "ab"), -23);
        is("no KEY", take(z, "a,"), -2);
        is("its VALUE 7", take(z, "ab") * 10 + z.count(0), 70);
    }

    private static void ordersDone() {
        says("6: done one by one till one is refused: how many were done");
        PageTrie x = with(4, 4, "+k=1");
        is("all", orders(x, "+a=1;+b=2;-k"), 3);
        is("the first is refused", orders(x, "-z;+c=3"), 0);
        is("the last is refused", orders(x, "+c=3;+d=4;-z"), 2);
        is("what was done stays", x.count(0), 4);
        is("none behind it is done", orders(x, "-a;-z;-b") * 10 + x.count(0), 13);
        says("6: a FAULT: -1000 times its number, less its place (nothing is done)");
        is("behind ITEMS that may be done", orders(x, "-b;-c;x") * 10 + x.count(0), -10057);
        says("6: n bytes of the tape (1 to 200); NONE: no such n");
        told(x, "-b");
        is("0", x.orders(0) + x.orders(-1) + x.orders(LEAST), -3);
        is("more than the tape", x.orders(21) + x.orders(MOST), -2);
        is("none but the first n", x.orders(2) * 10 + x.count(15), 10);
        is("an empty tape", x.orders(1), -1);
        is("240 fed", told(x, "-c;".repeat(80)), 240);
        is("201", x.orders(201) + x.orders(240), -2);
        is("200: one ITEM is too many", x.orders(200), -4060);
    }

    private static void batchDone() {
        says("7: how many ITEMS; -3 less the first that is refused (0 on)");
        PageTrie x = with(1, 2, "+aa=1;+b=2;+c=3");
        is("the first", batch(x, "-z;+y=1"), -3);
        is("the second", batch(x, "+y=1;-z"), -4);
        is("the twentieth", batch(x, "+y=1;".repeat(19) + "-z"), -22);
        is("all twenty", batch(x, "+aa=1;".repeat(19) + "+aa=5"), 20);
        says("7: if one is refused all is as it was ahead (COUNTERS, too)");
        String before = shape(x);
        is("refused", batch(x, "+ab=5;+d=6;+e=7;-aa;-b;~c,z;-aa"), -9);
        is("as it was", shape(x).equals(before), true);
        is("refused, and all went", batch(x, "~!,};~!,}"), -4);
        is("as it was", shape(x).equals(before), true);
        cursor(x, 0, "b");
        is("a CURSOR's KEY comes back", batch(x, "-b;-b") * 10 + x.cursorIs(0, 0), -39);
        says("7: a FAULT; NONE likewise");
        is("a FAULT", batch(x, "+z=1;+z=1 ") * 10 + x.count(0), -10087);
        is("one byte", batch(x, "+") + batch(x, "x"), -2001);
        told(x, "+z=1");
        is("no such n", x.batch(0) + x.batch(-1) + x.batch(21) + x.batch(201) + x.batch(MOST), -5);
        is("then it is done", x.batch(4) * 10 + x.count(15), 10);
    }

    /** All that tells how KEYS, PAGES and COUNTERS are, but for the tape. */
    private static String shape(PageTrie x) {
        StringBuilder shape = new StringBuilder();
        for (int what = 0; what < 15; what++) {
            shape.append(x.count(what)).append(' ');
        }
        for (int i = 0; i < x.count(0); i++) {
            shape.append(x.key(i, 0)).append(' ').append(x.key(i, -1)).append(' ').append(x.key(i, -2)).append(' ')
                .append(x.key(i, -3)).append(' ');
        }
        for (int l = 0; l < x.count(3); l++) {
            shape.append(pages(x, l)).append(' ');
        }
        return shape.toString();
    }

    private static void counted() {
        says("8: NONE for others");
        PageTrie x = with(4, 4, "+abcd=1;+abcde=2;+abcdf=3;+b=4");
        noneBeside("count", x::count, 15);
        says("8: LAYERS (the top alone: 1)");
        is("two", x.count(3) * 10 + x.count(8), 22);
        is("the top alone", orders(x, "-abcde") * 100 + x.count(3) * 10 + x.count(8), 111);
        is("ENDS, TAILS, BELOWS", x.count(5) * 100 + x.count(6) * 10 + x.count(7), 210);
        says("8: how many LAYERS lie one below the other at most");
        is("two beside one another", with(1, 4, "+aa=1;+ab=1;+ba=1;+bb=1").count(8), 2);
        is("of three", with(1, 4, "+aaa=1;+aab=1;+ba=1;+bb=1").count(8) * 10 + x.count(3), 31);
        says("8: VALUES together");
        PageTrie y = full();
        query(y, "");
        is("all of the most", y.change(2, 99999), 150);
        is("together", y.count(14), 14999850);
        says("8: bytes of the tape");
        is("240", told(y, "a".repeat(240)) - y.count(15), 0);
        is("told", y.rank(1) * 10 + y.count(15), 0);
    }

    private static void valueAndRank() {
        says("9: The VALUE of the KEY; -3: it is not there; -2; NONE");
        PageTrie x = forty("+aa=0;+ab=5");
        noneToldAs("value", x::value);
        is("a beginning is not there", x.value(1), -3);
        is("0", value(x, "aa"), 0);
        is("longer ones are not there", value(x, "aaa"), -3);
        is("no KEY", value(x, "a="), -2);
        says("9: one that is longer has been there, or has been told");
        PageTrie w = with(4, 4, "+c=2");
        is("the longer one", put(w, "abzz", 3), -3);
        is("a beginning", put(w, "ab", 3) * 10 + w.count(0), -27);
        is("not one of like first BYTES", value(w, "abz") + value(w, "abzzz") + value(w, "aba"), -9);
        is("between both", w.rank(told(w, "aba")) * 10 + w.alike(0, 1), 12);
        is("a beginning and what is beside it", w.alike(0, 0) * 10 + w.closest(0), 22);
        says("10: How many KEYS are ahead of it (whether it is there or not)");
        PageTrie y = forty("+b=1;+bb=2;+d=3");
        noneToldAs("rank", y::rank);
        is("ahead of all", y.rank(1), 0);
        is("the first", y.rank(told(y, "b")), 0);
        is("between", y.rank(told(y, "ba")) + y.rank(told(y, "c")), 3);
        is("there", y.rank(told(y, "bb")), 1);
        is("the last", y.rank(told(y, "d")), 2);
        is("behind all", y.rank(told(y, "da")), 3);
        is("no KEY", y.rank(told(y, "\u007f")), -2);
        PageTrie z = full();
        is("behind 150", z.rank(told(z, "}")), 150);
    }

    private static void keyByNumber() {
        says("11: KEY i in order; BYTE k (not so many: -4); NONE: no such ones (k below -3)");
        PageTrie x = with(4, 4, "+a=7;+" + LONGEST + "=8");
        is("no such KEY", x.key(-1, 0) + x.key(2, 0) + x.key(MOST, -1) + x.key(LEAST, -1), -4);
        is("k below -3", x.key(0, -4) + x.key(0, LEAST) + x.key(1, -5), -3);
        is("no such KEY comes ahead of not so many", x.key(2, 24), -1);
        is("bytes", x.key(0, -1) * 100 + x.key(1, -1), 124);
        is("its VALUE", x.key(0, -2) * 10 + x.key(1, -2), 78);
        is("AWAY", x.key(0, -3) * 10 + x.key(1, -3), 11);
        is("the only byte", x.key(0, 0), 'a');
        is("not so many", x.key(0, 1), -4);
        is("the 24th", x.key(1, 23), 'x');
        is("not so many", x.key(1, 24) + x.key(1, 25) + x.key(1, MOST), -12);
        is("the 150th", full().key(149, 1), 'J');
        is("a 151st", full().key(150, 1), -1);
        is("a byte of one that went", with(4, 4, "+abc=1;+b=1;-abc").key(0, 1), -4);
    }

    private static void nearest() {
        says("12: the last one that is it or ahead, the first one that is it or behind, the last one ahead, the first behind");
        PageTrie x = with(4, 4, "+b=1;+bb=2;+d=3");
        String[] keys = {"a", "b", "ba", "bb", "c", "d", "da"};
        int[][] near = {{-3, 0, -3, 0}, {0, 0, -3, 1}, {0, 1, 0, 1}, {1, 1, 0, 2}, {1, 2, 1, 2}, {2, 2, 1, -3}, {2, -3, 2, -3}};
        for (int i = 0; i < keys.length; i++) {
            for (int what = 0; what < 4; what++) {
                is("of " + keys[i] + ", " + what, x.near(told(x, keys[i]), what), near[i][what]);
            }
        }
        says("12: -3: there is none");
        PageTrie none = new PageTrie();
        for (int what = 0; what < 4; what++) {
            is("without KEYS", none.near(told(none, "a"), what), -3);
        }
        says("12: -2; NONE: no such what, n");
        is("no KEY", x.near(told(x, "b~"), 3), -2);
        PageTrie y = forty("+a=1");
        noneToldAs("near", n -> y.near(n, 0));
        int[] whats = {-1, 4, MOST, LEAST};
        for (int what : whats) {
            is("what " + what, y.near(1, what), -1);
        }
        PageTrie z = full();
        is("of 150", z.near(told(z, "z"), 0) + z.near(told(z, "xJ"), 1), 298);
    }

    private static void beginning() {
        says("13: How many KEYS begin with the KEY; the number of the first (none: -3), their VALUES together");
        PageTrie x = with(4, 4, "+a=1;+ab=2;+abc=4;+b=8;+" + LONGEST + "=16");
        String[] keys = {"a", "ab", "abc", LONGEST, "abd", "b", "c", "!", LONGEST.substring(0, 23)};
        int[][] begin = {{4, 0, 23}, {3, 1, 22}, {2, 2, 20}, {1, 3, 16}, {0, -3, 0}, {1, 4, 8}, {0, -3, 0}, {0, -3, 0},
            {1, 3, 16}};
        for (int i = 0; i < keys.length; i++) {
            for (int what = 0; what < 3; what++) {
                is("with " + keys[i] + ", " + what, x.begins(told(x, keys[i]), what), begin[i][what]);
            }
        }
        says("13: -2; NONE");
        is("no KEY", x.begins(told(x, "a;"), 0), -2);
        PageTrie y = forty("+a=1");
        noneToldAs("begins", n -> y.begins(n, 0));
        int[] whats = {-1, 3, MOST, LEAST};
        for (int what : whats) {
            is("what " + what, y.begins(1, what), -1);
        }
        PageTrie z = full();
        is("all of the last sign", z.begins(told(z, "x"), 0) * 1000 + z.begins(told(z, "x"), 1), 10140);
    }

    private static void likeness() {
        says("14: How many BYTES KEYS i and j have alike from the first one on; NONE: no such ones");
        PageTrie x = with(4, 4, "+" + LONGEST + "=1;+ab=2;+bab=3");
        is("one that begins the other", x.alike(0, 1) * 10 + x.alike(1, 0), 22);
        is("itself", x.alike(1, 1), 24);
        is("none", x.alike(0, 2), 0);
        is("no such ones", x.alike(3, 0) + x.alike(0, 3) + x.alike(-1, 0) + x.alike(0, -1) + x.alike(3, 3), -5);
        is("no such ones", x.alike(MOST, LEAST) + new PageTrie().alike(0, 0), -2);
        says("19: -2: there are not two; NONE for others");
        is("none", new PageTrie().closest(0) + new PageTrie().closest(1), -4);
        is("one", with(4, 4, "+a=1").closest(0) + with(4, 4, "+a=1").closest(1), -4);
        PageTrie y = with(4, 4, "+a=1;+b=2");
        is("two", y.closest(0) * 10 + y.closest(1), 0);
        noneBeside("closest", x::closest, 1);
        is("NONE comes first", new PageTrie().closest(2) + new PageTrie().closest(-1), -2);
        says("19: of like ones the first");
        PageTrie z = with(4, 4, "+a=1;+ab=2;+ac=3;+bab=4;+bac=5;+bad=6;+cax=7;+cay=7");
        is("three pairs of two", z.closest(0) * 10 + z.closest(1), 23);
        PageTrie l = with(4, 4, "+a=1;+b=2;+ba=3");
        is("the last pair", l.closest(0) * 10 + l.closest(1), 11);
        PageTrie f = with(4, 4, "+ab=1;+ac=2;+b=3;+c=4");
        is("the first pair", f.closest(0) * 10 + f.closest(1), 10);
    }

    private static void cursorsTold() {
        says("15: CURSOR c is at the KEY that n bytes are (its counts 0): 0; -2; NONE: no such ones");
        PageTrie x = forty("+a=1;+b=2");
        noneToldAs("cursor", n -> x.cursor(0, n));
        is("no such CURSOR", x.cursor(-1, 1) + x.cursor(4, 1) + x.cursor(MOST, 1) + x.cursor(LEAST, 1), -4);
        is("not told by these", x.step(0, true), -4);
        is("24 bytes", x.cursor(3, 24) + x.cursorIs(3, 33) - 'a', 0);
        is("no KEY", x.cursor(2, told(x, "a ")) * 10 + x.step(2, true), -24);
        says("16: -3: there is none (it stays, nothing is counted); -4: it is not told; NONE: no such one");
        is("no such one", x.step(-1, true) + x.step(4, false) + x.step(MOST, true) + x.step(LEAST, true), -4);
        is("not told", x.step(1, true) + x.step(1, false), -8);
        cursor(x, 0, "b");
        is("there is none", x.step(0, true), -3);
        is("it stays", x.cursorIs(0, 0) * 1000 + x.cursorIs(0, 10), 1098);
        cursor(x, 0, "c");
        is("none behind one that is not there", x.step(0, true), -3);
        is("it stays", x.cursorIs(0, 0) * 1000 + x.cursorIs(0, 10), -2901);
        is("nothing is counted", x.cursorIs(0, 1) + x.cursorIs(0, 2) + x.cursorIs(0, 3), 0);
        is("the number of the KEY", x.step(0, false), 1);
        is("LOST is counted", x.cursorIs(0, 3), 1);
    }

    private static void cursorAsked() {
        says("17: Of a CURSOR that is told; NONE: no such ones");
        PageTrie x = with(4, 4, "+a=1;+ab=2");
        is("not told", x.cursorIs(0, 0) + x.cursorIs(0, 3) + x.cursorIs(0, 10), -3);
        cursor(x, 0, "ab");
        cursor(x, 3, LONGEST);
        is("no such CURSOR", x.cursorIs(-1, 0) + x.cursorIs(4, 0) + x.cursorIs(MOST, 0), -3);
        int[] none = {-1, 4, 5, 9, 34, 35, MOST, LEAST};
        for (int what : none) {
            is("what " + what, x.cursorIs(0, what), -1);
        }
        says("17: the number of its KEY (not there: -3)");
        is("there", x.cursorIs(0, 0), 1);
        is("not there", x.cursorIs(3, 0), -3);
        says("17: BYTE k of its KEY (k 0 to 23; not so many: -4)");
        is("the first", x.cursorIs(0, 10), 'a');
        is("the last", x.cursorIs(0, 11), 'b');
        is("not so many", x.cursorIs(0, 12) + x.cursorIs(0, 33), -8);
        is("the 24th", x.cursorIs(3, 33), 'x');
        cursor(x, 3, "b");
        is("not one of the KEY before", x.cursorIs(3, 11), -4);
    }

    private static void fullPages() {
        says("18: How many PAGES have so many ENTRIES (1 to 8); NONE for others");
        PageTrie x = with(4, 8, "+a=1;+b=1;+c=1;+d=1;+e=1;+f=1;+g=1;+h=1");
        is("eight", x.full(8) * 10 + x.full(7), 10);
        is("none has one", x.full(1), 0);
        int[] none = {0, 9, -1, MOST, LEAST};
        for (int entries : none) {
            is("of " + entries, x.full(entries), -1);
        }
        is("none such in smaller ROOM", with(4, 2, "+a=1").full(8) + with(4, 2, "+a=1").full(3), 0);
        is("one", with(4, 2, "+a=1").full(1), 1);
        PageTrie y = with(1, 4, "+A=1;+aaa=1;+aab=1");
        is("of LAYERS that begin within a PAGE", y.full(1) * 10 + y.full(2), 12);
        is("without PAGES", new PageTrie().full(1), 0);
        is("of each LAYER", with(1, 4, "+aaa=1;+aab=1;+b=1").full(2) * 10 + with(1, 4, "+aaa=1;+aab=1").full(1), 22);
    }

    private static void layers() {
        says("20: LAYER l in the order of their beginnings; NONE: no such ones");
        PageTrie x = with(1, 2, "+ba=1;+bb=2;+aba=3;+abb=4;+ac=5;+aca=6;+acb=7");
        int[][] want = {{0, 2, 1, 7}, {1, 3, 2, 5}, {2, 2, 1, 2}, {2, 2, 1, 2}, {1, 2, 1, 2}};
        for (int l = 0; l < 5; l++) {
            for (int what = 0; what < 4; what++) {
                is("LAYER " + l + " " + what, x.layer(l, what), want[l][what]);
            }
        }
        is("no such LAYER", x.layer(5, 0) + x.layer(-1, 0) + x.layer(MOST, 0) + x.layer(LEAST, 0) + x.layer(5, 10), -5);
        int[] none = {-1, 4, 9, LEAST};
        for (int what : none) {
            is("what " + what, x.layer(0, what), -1);
        }
        PageTrie y = with(1, 2, "+aa=1;+ab=1;+ba=1;+bb=1;+bc=1;+c=1;-c");
        is("PAGES of the one beside are not its own", y.layer(1, 2) * 10 + y.layer(2, 2), 12);
        is("a last PAGE of one ENTRY", with(4, 2, "+a=1;+b=1;+c=1;-c").layer(0, 2), 2);
        says("20: ENTRIES of PAGE p (not so many: -4)");
        is("PAGES of LAYER 1", pages(x, 1), 12);
        is("the last one", x.layer(1, 11), 2);
        is("not so many", x.layer(1, 12) + x.layer(1, 13) + x.layer(1, MOST), -12);
        is("of an empty top", new PageTrie().layer(0, 10), -4);
        is("the top is always there", new PageTrie().layer(0, 2) + new PageTrie().layer(1, 2), -1);
    }

    private static void entries() {
        says("21: kind, BYTES of its PART, VALUE (BELOW: -2), BYTES of its rest (not of TAIL: 0), its PAGE");
        PageTrie x = with(1, 2, "+a=3;+aba=4;+abb=5;+b" + LONGEST.substring(1) + "=6");
        int[][] want = {{0, 1, 3, 0, 0}, {2, 1, -2, 0, 1}, {1, 1, 6, 23, 1}};
        for (int e = 0; e < 3; e++) {
            for (int what = 0; what < 5; what++) {
                is("ENTRY " + e + " " + what, x.entry(0, e, what), want[e][what]);
            }
        }
        says("21: BYTE k of its PART (not so many: -4), of its rest (likewise); NONE: (k 0 to 7, 0 to 22)");
        is("the PART", x.entry(0, 2, 10) * 10 + x.entry(0, 2, 11) + x.entry(0, 2, 17), 'b' * 10 - 8);
        is("the rest", x.entry(0, 2, 20) * 1000 + x.entry(0, 2, 42), 'b' * 1000 + 'x');
        is("no rest of an END", x.entry(0, 0, 20) + x.entry(0, 0, 42), -8);
        is("no rest of a BELOW", x.entry(0, 1, 20), -4);
        int[] none = {-1, 5, 9, 18, 19, 43, 44, MOST, LEAST};
        for (int what : none) {
            is("what " + what, x.entry(0, 0, what), -1);
        }
        is("no such LAYER", x.entry(3, 0, 0) + x.entry(-1, 0, 0) + x.entry(MOST, 0, 0), -3);
        is("no such ENTRY", x.entry(0, 3, 0) + x.entry(0, -1, 0) + x.entry(0, MOST, 0) + x.entry(0, LEAST, 10), -4);
        is("none of an empty top", new PageTrie().entry(0, 0, 0), -1);
        PageTrie y = with(8, 2, "+" + LONGEST + "=1");
        is("a PART of eight", y.entry(0, 0, 17) * 100 + y.entry(0, 0, 3), 'h' * 100 + 16);
        is("its rest's last one", y.entry(0, 0, 35) * 10 + y.entry(0, 0, 36), 'x' * 10 - 4);
        PageTrie z = with(8, 2, "+abc=1");
        is("a PART of three", z.entry(0, 0, 12) * 10 + z.entry(0, 0, 13), 'c' * 10 - 4);
    }

    private static void queries() {
        says("22: The QUERY by n bytes of the tape (0 to 60; 0: without STEPS): how many are FOUND");
        PageTrie x = with(4, 4, "+a=1;+b=2;+c=3");
        is("before any QUERY", x.found(0), 3);
        is("o", query(x, "o"), 2);
        told(x, "k0");
        is("0", x.query(0), 3);
        is("the tape is empty", x.count(15), 0);
        is("0 of an empty tape", x.query(0), 3);
        is("none FOUND", query(x, "pz"), 0);
        says("22: a FAULT (the one before stays); NONE: no such n");
        is("e", query(x, "e"), 1);
        is("a FAULT at its end", query(x, "o;r;"), -1004);
        is("a FAULT of the ninth", query(x, "o;o;o;o;o;o;o;o;o"), -4016);
        is("the one before", x.found(0) * 10 + x.foundAt(0), 11);
        told(x, "o");
        is("no such n", x.query(-1) + x.query(21) + x.query(61) + x.query(MOST) + x.query(LEAST), -5);
        is("the one before", x.found(0), 1);
        is("then it is told", x.query(1), 2);
        is("a QUERY of one step behind one of two", query(x, "t1;r") * 10 + x.query(0), 13);
    }

    private static void foundOnes() {
        says("23: the greatest, the least VALUE (-2 both: none); NONE for others");
        PageTrie x = with(4, 4, "+a=0;+bb=99999;+c=0");
        noneBeside("found", x::found, 5);
        is("least and greatest", x.found(2) * 10 + x.found(3), 999990);
        is("together", x.found(1) * 10 + x.found(4), 999994);
        is("unlike VALUES", x.found(5), 2);
        query(x, "<1");
        is("0 is a VALUE", x.found(2) + x.found(3), 0);
        is("one unlike VALUE", x.found(0) * 10 + x.found(5), 21);
        query(x, "t0");
        int[] none = {0, 0, -2, -2, 0, 0};
        for (int what = 0; what < 6; what++) {
            is("none: " + what, x.found(what), none[what]);
        }
        says("23: (as all is now)");
        query(x, "pd");
        put(x, "d", 5);
        is("one has come", x.found(0) * 10 + x.found(2), 15);
        take(x, "d");
        is("it went", x.found(0), 0);
        query(x, "t2;r");
        is("the least is the last", x.found(2) * 10 + x.found(3), 999990);
        put(x, "!", 5);
        is("the least is the last", x.found(2) * 10 + x.found(3), 50);
        query(x, "t2");
        put(x, "a", 7);
        is("the least is the first", x.found(2) * 10 + x.found(3), 75);
        says("24: FOUND is what is left of all KEYS (as all is now)");
        query(x, "l1");
        is("the last one", x.foundAt(3), 3);
        take(x, "!");
        is("none any more", x.foundAt(3), -4);
        put(x, "d", 1);
        is("another one", x.foundAt(3), 3);
        take(x, "d");
        says("24: The number of FOUND one i; -4: not so many; NONE: i below 0");
        query(x, "r;t2");
        is("both", x.foundAt(0) * 10 + x.foundAt(1), 21);
        is("not so many", x.foundAt(2) + x.foundAt(MOST), -8);
        is("below 0", x.foundAt(-1) + x.foundAt(LEAST), -2);
        is("none FOUND", new PageTrie().foundAt(0), -4);
        is("below 0 of none", new PageTrie().foundAt(-1), -1);
        PageTrie y = full();
        query(y, "r");
        is("of 150", y.foundAt(0) * 1000 + y.foundAt(149), 149000);
        is("not so many", y.foundAt(150), -4);
        query(y, "");
        is("VALUES together", y.found(1) * 1000 + y.found(4), 150300);
        is("of 150", y.found(2) * 100 + y.found(3) * 10 + y.found(5), 111);
    }

    private static void foundTaken() {
        says("25: All FOUND are TAKEN, in the order in which they are: how many");
        PageTrie x = full();
        is("all but one", query(x, "d1") - x.takeFound(), 0);
        is("one is left", x.count(0) * 10 + x.count(4), 11);
        is("the first", x.key(0, 1), 'A');
        is("none left to it", x.takeFound(), 0);
        is("all", x.query(0) * 10 + x.takeFound(), 11);
        is("of none", x.takeFound() + x.count(0), 0);
        PageTrie all = full();
        query(all, "r");
        is("all 150, backward", all.takeFound() * 10 + all.count(0), 1500);
        PageTrie y = with(4, 4, "+a=1;+b=1;+c=1;+d=1;+e=1");
        query(y, "r");
        cursor(y, 1, "c");
        is("backward", y.takeFound() * 10 + y.count(4), 50);
        is("a CURSOR's KEY went", y.cursorIs(1, 0), -3);
        says("25: in the order in which they are");
        // [a b][c d e]: b, c, d go, [a] and [e] join; the other way round e, d, c go, a page with them, and b
        PageTrie f = with(4, 4, "+a=1;+b=1;+c=1;+d=1;+e=1");
        query(f, "d1");
        is("forth", f.takeFound() * 10 + f.count(10), 41);
        PageTrie b = with(4, 4, "+a=1;+b=1;+c=1;+d=1;+e=1");
        query(b, "d1;r");
        is("back", b.takeFound() * 10 + b.count(10), 40);
        says("25: each step sees all that are there at first");
        PageTrie k = with(4, 4, "+a=1;+b=2;+c=3;+d=4;+e=5");
        query(k, "k2");
        is("a, c, e", k.takeFound() * 100 + k.count(14), 306);
    }

    private static void changed() {
        says("26: kind 0: more by v, 1: times v, 2: v (what comes is held to 0 to 99999)");
        PageTrie x = with(4, 4, "+a=0;+b=1;+c=99998;+d=99999");
        is("by 1", x.change(0, 1), 4);
        is("VALUES", x.key(0, -2) * 10 + x.key(1, -2), 12);
        is("held", x.key(2, -2) + x.key(3, -2), 199998);
        is("by 0", x.change(0, 0) * 10 + x.key(1, -2), 42);
        is("times 1", x.change(1, 1) * 10 + x.key(1, -2), 42);
        is("times 99999", x.change(1, 99999), 4);
        is("held", x.key(0, -2) + x.key(1, -2) + x.key(2, -2) + x.key(3, -2), 399996);
        is("the most times the most", x.change(1, 99999) * 100000 + x.key(3, -2), 499999);
        is("by the most", x.change(0, 99999) * 100000 + x.key(3, -2), 499999);
        is("times 0", x.change(1, 0) * 10 + x.count(14), 40);
        is("v", x.change(2, 99999) + x.count(14), 400000);
        is("0", x.change(2, 0) + x.count(14), 4);
        is("times of 0", x.change(1, 99999) + x.count(14), 4);
        says("26: how many; NONE: no such ones");
        is("none FOUND", query(x, "o") + x.change(2, 1), 0);
        is("kinds", x.change(-1, 0) + x.change(3, 0) + x.change(MOST, 0) + x.change(LEAST, 0), -4);
        is("v", x.change(0, -1) + x.change(0, 100000) + x.change(1, -1) + x.change(2, LEAST) + x.change(1, MOST), -5);
        is("only those FOUND", query(x, "pa") + x.change(2, 7) + x.count(14), 9);
        is("all 150", full().change(0, 1), 150);
    }

    private static void tried() {
        says("27: With another WIDTH and ROOM, all KEYS PUT in order, tried aside");
        PageTrie x = with(1, 2, "+c=1;+b=2;+aa=3;+ab=4;+aa=5;-b");
        String before = shape(x);
        int[] want = {1, 2, 3, 0, 0, 1, 1, 0, 0, 0, 8 + 8 + 3 * 2 + 5};
        for (int what = 3; what <= 13; what++) {
            is("what " + what, x.tried(2, 2, what), want[what - 3]);
        }
        is("aside", shape(x).equals(before), true);
        PageTrie k = with(8, 8, "+abc=1;+abd=2;+b=3;+cax=4;+cbx=5");
        is("LAYERS of WIDTH 1", k.tried(1, 2, 3) * 100 + k.tried(1, 2, 8) * 10 + k.tried(1, 2, 11), 433);
        is("of WIDTH 2", k.tried(2, 2, 3) * 10 + k.tried(2, 2, 7), 21);
        is("ENDS and TAILS", k.tried(2, 2, 5) * 10 + k.tried(2, 2, 6), 32);
        says("27: NONE: no such ones");
        int[][] none = {{0, 4, 3}, {9, 4, 3}, {4, 1, 3}, {4, 9, 3}, {4, 4, 2}, {4, 4, 14}, {4, 4, 15}, {4, 4, -1}, {MOST, 4, 3},
            {4, LEAST, 3}, {4, 4, MOST}, {4, 4, 0}};
        for (int[] n : none) {
            is(n[0] + " " + n[1] + " " + n[2], x.tried(n[0], n[1], n[2]), -1);
        }
        is("edges", x.tried(1, 2, 3) * 10 + x.tried(8, 8, 3), 21);
        is("without KEYS", new PageTrie().tried(8, 8, 4) * 10 + new PageTrie().tried(1, 2, 13), 8);
        is("of 150", full().tried(8, 8, 4) * 100 + full().tried(8, 8, 9), 3736);
        says("28: of like ones the least; NONE for others");
        noneBeside("best", x::best, 1);
        is("without KEYS", new PageTrie().best(0) * 10 + new PageTrie().best(1), 18);
        is("all alike", with(8, 8, "+a=1").best(0), 1);
        is("of two KEYS", with(8, 2, "+aaaaaaaax=1;+aaaaaaaay=1").best(0), 8);
        // WIDTHS 5 to 8 hold both at the top; 4 and less need a LAYER
        is("the least of like ones", with(1, 2, "+aaaax=1;+aaaay=1").best(0), 5);
        is("ROOM as it is", with(1, 2, "+a=1;+b=1;+c=1").best(1) - with(1, 8, "+a=1;+b=1;+c=1").best(1), 4);
    }

    private static void kept() {
        says("29: KEPT: how many KEYS; 30: UNDONE: true; false: nothing was KEPT");
        PageTrie x = new PageTrie();
        is("nothing", x.undo(), false);
        is("none", x.keep(), 0);
        orders(x, "+a=1;+b=2");
        is("UNDONE", x.undo(), true);
        is("none", x.count(0), 0);
        is("UNDONE again", x.undo(), true);
        is("all", full().keep(), 150);
        says("as it was KEPT last");
        put(x, "a", 1);
        is("one", x.keep(), 1);
        put(x, "b", 1);
        is("two", x.keep(), 2);
        orders(x, "~a,b");
        is("UNDONE", x.undo(), true);
        is("two", x.count(0), 2);
        says("KEPT is all but the tape");
        x.feed(1, 1, 1, 1, 1);
        x.keep();
        x.query(0);
        is("UNDONE", x.undo(), true);
        is("the tape is as it is", x.count(15), 0);
        says("31: that came, that went, whose VALUES are others; -2: nothing was KEPT; NONE for others");
        is("nothing", new PageTrie().unlike(0) + new PageTrie().unlike(1) + new PageTrie().unlike(2), -6);
        is("NONE comes first", new PageTrie().unlike(3) + new PageTrie().unlike(-1), -2);
        PageTrie y = with(4, 4, "+b=1;+c=2;+d=3");
        y.keep();
        is("none", y.unlike(0) + y.unlike(1) + y.unlike(2), 0);
        noneBeside("unlike", y::unlike, 2);
        orders(y, "+a=1;-b;+c=9;+e=1;+d=3");
        is("unlike", y.unlike(0) * 100 + y.unlike(1) * 10 + y.unlike(2), 211);
        orders(y, "+b=7;+c=2");
        is("one that went and came", y.unlike(0) * 100 + y.unlike(1) * 10 + y.unlike(2), 201);
        orders(y, "~!,}");
        is("all went", y.unlike(0) * 100 + y.unlike(1) * 10 + y.unlike(2), 30);
        y.keep();
        put(y, "z", 1);
        PageTrie z = with(4, 4, "+a=1");
        is("told behind a longer one", put(z, "czz", 1) + take(z, "czz") + put(z, "c", 1) + put(z, "ca", 2), -8);
        is("all three are like those KEPT", z.keep() * 100 + z.unlike(0) * 10 + z.unlike(1), 300);
        is("behind a KEPT one without KEYS", y.unlike(0) * 100 + y.unlike(1) * 10 + y.unlike(2), 100);
    }

    private static void undoneInAll() {
        says("30: UNDONE: as it was KEPT last: COUNTERS");
        PageTrie x = with(1, 4, "+a=1;+b=1;+c=1;+d=1;+e=1;-a;-e;-d;+xa=1;+xb=1;-xa");
        String before = shape(x);
        is("COUNTERS", x.count(9) * 1000 + x.count(10) * 100 + x.count(11) * 10 + x.count(12), 1111);
        x.keep();
        is("more of each", orders(x, "+d=1;+e=1;+f=1;+g=1;+h=1;~b,e;+ya=1;+yb=1;-ya;+za=1;+zb=1"), 11);
        is("PARTED", x.count(9) > 1, true);
        is("MADE, FOLDED", x.count(11) * 10 + x.count(12), 32);
        is("UNDONE", x.undo(), true);
        is("as it was", shape(x).equals(before), true);
        x.begin(3, 3);
        is("UNDONE", x.undo(), true);
        is("as it was", shape(x).equals(before), true);
        says("7: if one is refused all is as it was ahead: COUNTERS");
        is("refused", batch(x, "+d=1;+e=1;+f=1;+g=1;+h=1;~b,e;+ya=1;+yb=1;-ya;+za=1;-zb"), -13);
        is("as it was", shape(x).equals(before), true);
        is("refused as they JOIN", batch(with(4, 4, "+a=1;+b=1;+c=1;+d=1;+e=1"), "-a;-e;-d;-d"), -6);
        PageTrie y = with(4, 4, "+a=1;+b=1;+c=1;+d=1;+e=1");
        is("JOINED is taken back", batch(y, "-a;-e;-d;-d") * 100 + y.count(10) * 10 + y.count(9), -599);
        is("JOINED is done", batch(y, "-a;-e;-d") * 100 + y.count(10) * 10 + y.count(9), 311);
        says("30: CURSORS");
        PageTrie z = with(4, 2, "+a=1;+b=2;+c=3;+d=4");
        for (int c = 0; c < 3; c++) {
            cursor(z, c, "bb");
            z.step(c, true);
            z.step(c, false);
            z.step(c, true);
            z.step(c, true);
        }
        is("FAR, NEAR, LOST", z.cursorIs(0, 2) * 100 + z.cursorIs(0, 1) * 10 + z.cursorIs(0, 3), 211);
        z.keep();
        for (int c = 0; c < 4; c++) {
            cursor(z, c, "a");
        }
        is("UNDONE", z.undo(), true);
        for (int c = 0; c < 3; c++) {
            is("its KEY", z.cursorIs(c, 10), 'd');
            is("its counts", z.cursorIs(c, 2) * 100 + z.cursorIs(c, 1) * 10 + z.cursorIs(c, 3), 211);
        }
        is("one that was not told", z.cursorIs(3, 0), -1);
        says("30: 150 KEYS");
        PageTrie f = full();
        f.keep();
        f.takeFound();
        orders(f, "+zzz=5;+zzy=6");
        is("UNDONE", f.undo(), true);
        is("the last one", f.key(149, 0) * 1000 + f.key(149, 1), 120074);
        is("the last but one, and no more", f.key(148, 1) * 10 + f.key(150, 1), 729);
        is("all went in a batch", batch(f, "~!,};+zzz=1;-zzy"), -5);
        is("the last one", f.key(149, 0) * 1000 + f.key(149, 1), 120074);
        is("each is there", value(f, "aA") + value(f, "dT") + value(f, "gA") + value(f, "xJ"), 4);
        says("30: the QUERY");
        query(z, "t2;pb");
        z.keep();
        query(z, "r;l1;t3");
        is("UNDONE", z.undo(), true);
        is("FOUND", z.found(0) * 10 + z.foundAt(0), 11);
    }

    private static void checked() {
        says("32: NONE: right (behind the KEY, and without KEYS, nothing is); else the first that is not so");
        PageTrie x = with(4, 4, "+" + LONGEST + "=1;+b=2");
        is("all 24", x.check(told(x, LONGEST)), -1);
        is("the tape stays", x.count(15), 40);
        is("the first ones", x.check(1) + x.check(23) + x.check(0), -3);
        is("the tape stays", x.count(15), 40);
        says("32: -2: no such n, it has not so many (the tape stays)");
        is("no such n", x.check(-1) + x.check(25) + x.check(40) + x.check(41) + x.check(MOST) + x.check(LEAST), -12);
        is("the tape stays", x.count(15), 40);
        x.query(0);
        is("an empty tape", x.check(1), -2);
        is("nothing of it", x.check(0), -1);
        is("the last one", x.check(told(x, LONGEST.substring(0, 23) + "y")), 23);
        is("it is empty then", x.count(15), 0);
        is("the first one", x.check(told(x, "b")), 0);
        PageTrie y = with(4, 4, "+ab=1");
        is("behind the KEY nothing is", y.check(told(y, "aba")), 2);
        is("not 0 either", y.check(told(y, "ab\u0000")), 2);
        is("of a KEY that begins another one", y.check(told(y, "ab")), -1);
        y.query(0);
        orders(y, "-ab");
        is("without KEYS nothing is", y.check(told(y, "ab")), 0);
        is("not 0 either", y.check(told(y, "\u0000")), 0);
    }

    public static void main(String[] args) {
        aNewObject();
        fed();
        begun();
        putAndTaken();
        ordersDone();
        batchDone();
        counted();
        valueAndRank();
        keyByNumber();
        nearest();
        beginning();
        likeness();
        cursorsTold();
        cursorAsked();
        fullPages();
        layers();
        entries();
        queries();
        foundOnes();
        foundTaken();
        changed();
        tried();
        kept();
        undoneInAll();
        checked();
        DUE.end("PromisesBoundsTest");
    }
}
