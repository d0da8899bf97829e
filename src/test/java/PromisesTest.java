/** For each promise of the document: ordinary calls, the edges that it names, wrong ones; all worked out by hand. */
public final class PromisesTest extends Calls {
    private static void newObject() {
        PageTrie x = new PageTrie();
        int[] counts = {0, 4, 4, 1, 0, 0, 0, 0, 1, 0, 0, 0, 0, 8, 0, 0};
        for (int what = 0; what < counts.length; what++) {
            is("new count " + what, x.count(what), counts[what]);
        }
        is("new found", x.found(0), 0);
        is("new undo", x.undo(), false);
        is("new cursor", x.step(3, true), -4);
        put(x, "a", 1);
        put(x, "b", 2);
        is("all is found without a query", x.found(0), 2);
        is("the constant", PageTrie.NONE, -1);
    }

    private static void feed() {
        PageTrie x = new PageTrie();
        is("feed", x.feed(0x61626364, 0x65666768, 0x696a6b6c, 0x6d6e6f70, 0x71727374), 20);
        is("put of 20", x.put(20, 1), -3);
        for (int k = 0; k < 20; k++) {
            is("byte " + k, x.key(0, k), 'a' + k);
        }
        for (int i = 1; i <= 12; i++) {
            is("feed " + i, x.feed(-1, 0, 0, 0, 0x80000000), 20 * i);
        }
        is("a thirteenth", x.feed(0, 0, 0, 0, 0), -1);
        is("it stays", x.count(15), 240);
        is("bytes above 127 are of no key", x.put(1, 0), -2);
        is("then it is empty", x.count(15), 0);
        is("bytes come behind", x.feed(0x61616161, 0x61616161, 0x61616161, 0x61616161, 0x61616161), 20);
        is("bytes come behind", x.feed(0x62626262, 0x62626262, 0x62626262, 0x62626262, 0x62626262), 40);
        is("put of 21", x.put(21, 2), -3);
        is("the last one", x.key(0, 20), 'b');
        is("the one ahead", x.key(0, 19), 'a');
    }

    private static void begin() {
        PageTrie x = with(2, 3, "+aa=1;+aab=2;+aac=3;+b=4;+c=5");
        is("keep", x.keep(), 5);
        is("query", query(x, "pb"), 1);
        is("cursor", x.cursor(1, told(x, "b")), 0);
        int[][] wrong = {{0, 4}, {9, 4}, {-1, 4}, {4, 1}, {4, 9}, {4, 0}};
        for (int[] w : wrong) {
            is("begin of none such", x.begin(w[0], w[1]), -1);
        }
        is("nothing has changed", x.count(0) * 100 + x.count(1) * 10 + x.count(2), 523);
        is("the cursor is still told", x.cursorIs(1, 0), 3);
        x.feed(0, 0, 0, 0, 0);
        is("begin", x.begin(8, 2), 0);
        int[] counts = {0, 8, 2, 1, 0, 0, 0, 0, 1, 0, 0, 0, 0, 8, 0, 0};
        for (int what = 0; what < counts.length; what++) {
            is("count behind begin " + what, x.count(what), counts[what]);
        }
        is("cursors are not told", x.step(1, true), -4);
        is("cursors are not told", x.cursorIs(1, 0), -1);
        orders(x, "+a=1;+b=2;+c=3");
        is("the query stays", x.found(0) * 10 + x.foundAt(0), 11);
        is("what was kept stays", x.unlike(1), 3);
        is("undo", x.undo(), true);
        is("width and room are undone", x.count(1) * 10 + x.count(2), 23);
        is("begin at the edges", x.begin(1, 8), 0);
        is("begin at the edges", x.count(1) * 10 + x.count(2), 18);
    }

    private static void put() {
        PageTrie x = new PageTrie();
        is("put", put(x, "ab", 5), -3);
        is("put again", put(x, "ab", 99999), 5);
        is("and again", put(x, "ab", 0), 99999);
        is("longest", put(x, LONGEST, 1), -3);
        is("bytes of it", x.key(1, -1), 24);
        String none = "; = , ~ \u0020 \u007f \u0000 \u00e9 \u00ff";
        for (String sign : none.split(" ")) {
            is("no key byte", put(x, "a" + (sign.isEmpty() ? " " : sign), 1), -2);
            is("the tape is empty then", x.count(15), 0);
        }
        is("the edges", put(x, "!", 1), -3);
        is("the edges", put(x, "}", 1), -3);
        told(x, ";" + LONGEST);
        int[][] calls = {{0, 1}, {-1, 1}, {25, 1}, {41, 1}, {1, -1}, {1, 100000}, {Integer.MAX_VALUE, 1}};
        for (int[] c : calls) {
            is("put of none such", x.put(c[0], c[1]), -1);
        }
        is("the tape stays", x.count(15), 40);
        is("and is told then", x.put(1, 1), -2);
        is("keys", x.count(0), 4);
        PageTrie y = full();
        is("a 151st", put(y, "zz", 1), -4);
        is("one that is there", put(y, "aA", 7), 1);
        is("none such comes first", y.put(told(y, ";"), -1), -1);
        is("then no key", y.put(1, 1), -2);
    }

    private static void layersMadeAndFolded() {
        PageTrie x = with(4, 4, "+abcd=1;+abcde=2");
        is("an end and a tail of like parts", x.count(5) * 10 + x.count(6), 11);
        is("the end is ahead", x.entry(0, 0, 0) * 10 + x.entry(0, 1, 0), 1);
        orders(x, "+abcdf=3");
        is("made", x.count(11) * 10 + x.count(3), 12);
        is("a below where the tail lay", x.entry(0, 1, 0), 2);
        is("ends", x.count(5), 3);
        is("take", take(x, "abcde"), 2);
        is("folded", x.count(12) * 10 + x.count(3), 11);
        is("a tail where the below lay", x.entry(0, 1, 0), 1);
        is("its rest", x.entry(0, 1, 20), 'f');
        PageTrie y = with(1, 2, "+aaaa=1;+aaab=2");
        is("made one below the other", y.count(11) * 100 + y.count(3) * 10 + y.count(8), 344);
        is("belows", y.count(7), 3);
        is("weight", y.count(13), 63);
        orders(y, "+ab=3");
        is("no more made", y.count(11), 3);
        is("take", take(y, "aaab"), 2);
        is("folded up to where another one is", y.count(12) * 10 + y.count(3), 22);
        is("the tail's rest", y.entry(1, 0, 3), 2);
        is("take", take(y, "aaaa"), 1);
        is("folded into the top", y.count(12) * 10 + y.count(3), 31);
        is("tail at the top", y.entry(0, 0, 0), 1);
        is("take", take(y, "ab"), 3);
        is("nothing is left", y.count(3) * 10 + y.count(4), 10);
        PageTrie z = with(1, 4, "+aa=1;+ab=2;+aaa=3;+aab=4");
        is("take the end and the one beside", take(z, "ab"), 2);
        is("a single below is not folded, nor the end beside it", z.count(12), 0);
        is("take", take(z, "aa"), 1);
        is("a layer with a single below stays", z.count(3) * 10 + z.count(7), 32);
        is("take", take(z, "aaa"), 3);
        is("then all fold", z.count(12) * 10 + z.count(3), 21);
    }

    private static void pagesPartAndJoin() {
        PageTrie x = with(4, 2, "+a=1;+b=2;+c=3");
        is("half of three, cut, stays", pages(x, 0), 12);
        orders(x, "+d=4");
        is("again", pages(x, 0) * 10 + x.count(9), 1122);
        is("three of four", pages(with(4, 3, "+a=1;+b=2;+c=3;+d=4"), 0), 22);
        is("eight", pages(with(4, 8, "+a=1;+b=2;+c=3;+d=4;+e=5;+f=6;+g=7;+h=8;+i=9"), 0), 45);
        PageTrie y = with(4, 4, "+a=1;+b=2;+c=3;+d=4;+e=5");
        is("five", pages(y, 0), 23);
        orders(y, "+bb=1");
        is("the last page whose first is not behind", pages(y, 0), 33);
        orders(y, "+A=1");
        is("the first page, if there is none such", pages(y, 0), 43);
        orders(y, "-bb;-A;-e");
        is("four are more than half", pages(y, 0), 22);
        orders(y, "-d");
        is("three, too", pages(y, 0) * 10 + y.count(10), 210);
        orders(y, "-b");
        is("two join", pages(y, 0) * 10 + y.count(10), 21);
        PageTrie z = with(4, 4, "+a=1;+b=2;+c=3;+d=4;+e=5;-a;-b");
        is("a page without any goes", pages(z, 0) * 10 + z.count(10), 30);
        PageTrie w = with(4, 8, "+a=1;+b=1;+c=1;+d=1;+e=1;+f=1;+g=1;+h=1;+i=1;+j=1;+k=1;+l=1;+m=1");
        is("three pages", pages(w, 0), 445);
        orders(w, "-c;-d;-k;-l;-m;-e");
        is("none joins", pages(w, 0) * 10 + w.count(10), 2320);
        orders(w, "-f");
        is("the page behind comes first", pages(w, 0) * 10 + w.count(10), 241);
        orders(w, "-i;-j");
        is("else the page ahead", pages(w, 0) * 10 + w.count(10), 42);
        is("two never join in rooms of two", pages(with(4, 2, "+a=1;+b=2;+c=3;-c"), 0), 11);
        PageTrie v = with(1, 2, "+aa=1;+b=1;+c=1;+ab=1;-aa");
        is("a below goes and comes where it lies", pages(v, 0), 12);
    }

    private static void take() {
        PageTrie x = with(4, 4, "+ab=5;+abc=6");
        is("take", take(x, "ab"), 5);
        is("gone", take(x, "ab"), -3);
        is("a beginning is not it", take(x, "a"), -3);
        is("no key", take(x, "a,"), -2);
        told(x, "abc");
        is("no such n", x.take(0) + x.take(25) + x.take(21) + x.take(-1), -4);
        is("take", x.take(3), 6);
        is("nothing", x.count(0) * 10 + x.count(4), 0);
    }

    private static void ordersDone() {
        PageTrie x = new PageTrie();
        is("three", orders(x, "+a=1;+b=00002;-a"), 3);
        is("refused", orders(x, "+c=3;-a;+d=4"), 1);
        is("keys", x.count(0), 2);
        is("range", orders(x, "+d=4;+e=5;~b,dz"), 3);
        is("keys", x.count(0), 1);
        is("range of none", orders(x, "~f,g"), 0);
        is("range the other way round", orders(x, "~z,a"), 0);
        is("range of one", orders(x, "~e,e"), 1);
        is("five digits", orders(x, "+v=99999"), 1);
        is("value", x.count(14), 99999);
        is("signs may be in keys", orders(x, "++-=1;-+-;+p>=2"), 3);
        is("values at all", orders(x, "+v=0;+p>=0"), 2);
        told(x, "-v");
        is("no such n", x.orders(0) + x.orders(-1) + x.orders(201) + x.orders(21), -4);
        is("the tape stays", x.count(15), 20);
        is("orders", x.orders(2), 1);
        is("the tape is empty", x.count(15), 0);
        PageTrie y = full();
        is("150 are there", orders(y, "+aA=5;+zz=1;+bB=1"), 1);
        PageTrie z = new PageTrie();
        is("200 bytes", told(z, "+" + LONGEST + "=1;" + ("+" + LONGEST + "=10;").repeat(5) + "+" + LONGEST + "=7"), 200);
        is("201 bytes", z.orders(201), -1);
        is("200 bytes", z.orders(200) * 10 + z.count(14), 77);
    }

    private static void ordersFaults() {
        PageTrie x = new PageTrie();
        String[] texts = {"x", "+", "+=1", "+a", "+a;", "+a=", "+a=;", "+a=1x", "+a=1;", ";", "-", "-a=1", "~a", "~a,",
            "~,a", "~a,b=", "+a,1", "-;", "+a=123456", "+a=123456x", "-" + LONGEST + "y", "+" + LONGEST + " ",
            "~" + LONGEST + "," + LONGEST + "z", "-\u00e9", "+a=1;-b c", "- ", "+a~=1", "-a;x;+" + LONGEST + "y=1"};
        int[] faults = {-1000, -1001, -1001, -1002, -1002, -1003, -1003, -1004, -1005, -1000, -1001, -1002, -1002, -1003,
            -1001, -1004, -1002, -1001, -2008, -2008, -5025, -1025,
            -5050, -1001, -1007, -1001, -1002, -1003};
        for (int i = 0; i < texts.length; i++) {
            is("orders " + texts[i], orders(x, texts[i]), faults[i]);
            is("the tape is empty", x.count(15), 0);
            is("batch " + texts[i], batch(x, texts[i]), faults[i]);
        }
        is("nothing is done", x.count(0), 0);
        String twenty = "-a;".repeat(20);
        is("a 21st item", orders(x, twenty + "+a=1"), -4060);
        is("whatever stands there", orders(x, twenty + "x"), -4060);
        is("a fault ahead of it", orders(x, "-a;".repeat(19) + "-;-a"), -1058);
        is("twenty", orders(x, "+a=1;".repeat(19) + "+a=1"), 20);
        is("the first from the left", orders(x, "+a=1234567;x"), -2008);
    }

    private static void batch() {
        PageTrie x = with(1, 2, "+aa=1;+b=2;+c=3;+d=4");
        int made = x.count(11);
        int parted = x.count(9);
        is("refused", batch(x, "+ab=5;+e=6;-b;-zz;+f=1"), -6);
        is("all is as it was", x.count(0) * 10 + x.count(14), 50);
        is("counters, too", x.count(11) * 10 + x.count(9), made * 10 + parted);
        is("the first item", batch(x, "-zz"), -3);
        is("a range of none", batch(x, "+aa=7;~x,y"), -4);
        is("values are as they were", x.value(told(x, "aa")), 1);
        is("done", batch(x, "+ab=5;-b"), 2);
        is("keys", x.count(0), 4);
        told(x, "-a");
        is("no such n", x.batch(0) + x.batch(201) + x.batch(21) + x.batch(-5), -4);
        is("the tape stays", x.count(15), 20);
        is("the tape is empty then", x.batch(2) + x.count(15), -3);
        PageTrie y = full();
        is("the last but one", batch(y, "-aA;+zz=1;+zy=1"), -5);
        is("it is back", y.value(told(y, "aA")), 1);
    }

    private static void count() {
        PageTrie x = with(4, 4, "+a=1;+b=2;+c=3;+d=4;+e=5;+abcde=6;+abcdf=7;+abcdg=8;+abcdghijk=9");
        is("keys", x.count(0), 9);
        is("width, room", x.count(1) * 10 + x.count(2), 44);
        is("layers: top and abcd", x.count(3), 2);
        is("pages", x.count(4), 3);
        is("ends", x.count(5), 8);
        is("tails", x.count(6), 1);
        is("belows", x.count(7), 1);
        is("one below the other", x.count(8), 2);
        is("parted", x.count(9), 1);
        is("joined", x.count(10), 0);
        is("made", x.count(11), 1);
        is("folded", x.count(12), 0);
        // top: a b c d e 5, abcd 4; below: e f g 3, ghij and k 5; entries 10, pages 3, layers 2
        is("weight", x.count(13), 17 + 20 + 12 + 16);
        is("values", x.count(14), 45);
        is("tape", x.count(15), 0);
        is("none such", x.count(16) + x.count(-1) + x.count(Integer.MIN_VALUE), -3);
    }

    private static void valueAndRank() {
        PageTrie x = with(4, 4, "+b=7;+bb=8;+d=9");
        is("value", x.value(told(x, "bb")), 8);
        is("not there", x.value(told(x, "bbb")), -3);
        is("no key", x.value(told(x, "b=")), -2);
        is("rank of one there", x.rank(told(x, "bb")), 1);
        is("rank of one not there", x.rank(told(x, "c")), 2);
        is("ahead of all", x.rank(told(x, "a")), 0);
        is("behind all", x.rank(told(x, "d!")), 3);
        is("no key", x.rank(told(x, " ")), -2);
        told(x, "b");
        is("no such n", x.value(0) + x.value(25) + x.value(21) + x.rank(0) + x.rank(-3) + x.rank(24), -6);
        is("the tape stays", x.count(15), 20);
        is("value", x.value(1), 7);
        is("the tape is empty", x.value(1), -1);
    }

    private static void key() {
        PageTrie x = with(4, 2, "+b=7;+bcdef=8;+bcdeg=9;+a=1");
        is("bytes", x.key(2, -1), 5);
        is("value", x.key(2, -2), 8);
        is("byte", x.key(2, 4), 'f');
        is("not so many", x.key(2, 5), -4);
        is("not so many", x.key(2, Integer.MAX_VALUE), -4);
        is("none such", x.key(4, 0) + x.key(-1, 0) + x.key(0, -4) + x.key(4, 9) + x.key(0, Integer.MIN_VALUE), -5);
        is("in order", x.key(0, 0) * 1000 + x.key(1, 0), 97098);
        // top: a b | bcde, after a came ahead: b bcde, a: three, so a | b bcde; below: f g
        is("away of a", x.key(0, -3), 1);
        is("away of b", x.key(1, -3), 2);
        is("away of the first one below", x.key(2, -3), 3);
        is("away of the other one", x.key(3, -3), 3);
        orders(x, "+bcdeh=1");
        is("parted below", x.key(2, -3) * 100 + x.key(3, -3) * 10 + x.key(4, -3), 344);
    }

    private static void near() {
        PageTrie x = with(4, 4, "+b=7;+d=8;+f=9");
        String[] keys = {"d", "c", "a", "b", "f", "g"};
        int[][] want = {{1, 1, 0, 2}, {0, 1, 0, 1}, {-3, 0, -3, 0}, {0, 0, -3, 1}, {2, 2, 1, -3}, {2, -3, 2, -3}};
        for (int i = 0; i < keys.length; i++) {
            for (int what = 0; what < 4; what++) {
                is("near " + keys[i] + " " + what, x.near(told(x, keys[i]), what), want[i][what]);
            }
        }
        is("no key", x.near(told(x, "~"), 0), -2);
        told(x, "~");
        is("none such", x.near(1, 4) + x.near(1, -1) + x.near(0, 0) + x.near(25, 0) + x.near(21, 0), -5);
        is("the tape stays", x.count(15), 20);
        is("no keys", new PageTrie().near(1, 0), -1);
        PageTrie y = new PageTrie();
        is("no keys", y.near(told(y, "a"), 1), -3);
    }

    private static void begins() {
        PageTrie x = with(2, 2, "+a=1;+ab=2;+abc=4;+ac=8;+b=16");
        is("a", x.begins(told(x, "a"), 0), 4);
        is("ab", x.begins(told(x, "ab"), 0) * 10 + x.begins(told(x, "ab"), 1), 21);
        is("values", x.begins(told(x, "ab"), 2), 6);
        is("the longest", x.begins(told(x, "abc"), 0), 1);
        is("none", x.begins(told(x, "abcd"), 0), 0);
        is("none", x.begins(told(x, "aa"), 1), -3);
        is("none", x.begins(told(x, "c"), 2), 0);
        is("no key", x.begins(told(x, ";"), 1), -2);
        told(x, ";");
        is("none such", x.begins(1, 3) + x.begins(1, -1) + x.begins(0, 0) + x.begins(25, 0), -4);
        is("the tape stays", x.count(15), 20);
    }

    private static void alikeAndClosest() {
        PageTrie x = with(2, 2, "+a=1");
        is("one key", x.closest(0), -2);
        is("one key", x.closest(1), -2);
        orders(x, "+ab=2;+abcd=4;+abce=8;+b=16;+bbbx=1;+bbby=1");
        is("alike", x.alike(2, 3) * 100 + x.alike(0, 3) * 10 + x.alike(3, 4), 310);
        is("the other way round", x.alike(3, 1), 2);
        is("itself", x.alike(2, 2), 4);
        is("none such", x.alike(7, 0) + x.alike(0, 7) + x.alike(-1, 0) + x.alike(0, -1), -4);
        is("closest", x.closest(0), 3);
        is("of like ones the first", x.closest(1), 2);
        is("none such", x.closest(2) + x.closest(-1), -2);
        is("none such comes first", new PageTrie().closest(2), -1);
        PageTrie y = with(2, 2, "+a=1;+b=2;+c=3");
        is("nothing alike", y.closest(0) * 10 + y.closest(1), 0);
    }

    private static void cursors() {
        PageTrie x = with(4, 2, "+a=1;+b=2;+c=3;+bcdea=4;+bcdeb=5");
        is("pages of the top", pages(x, 0), 112);
        is("cursor", x.cursor(0, told(x, "a")), 0);
        is("forth", x.step(0, true), 1);
        is("far", x.cursorIs(0, 2), 1);
        is("forth, down", x.step(0, true), 2);
        is("far", x.cursorIs(0, 2), 2);
        is("forth, below", x.step(0, true), 3);
        is("near", x.cursorIs(0, 1), 1);
        is("back", x.step(0, false), 2);
        is("near", x.cursorIs(0, 1), 2);
        orders(x, "-bcdea");
        is("not there", x.cursorIs(0, 0), -3);
        is("its bytes", x.cursorIs(0, 14), 'a');
        is("not so many", x.cursorIs(0, 15), -4);
        is("lost", x.step(0, true), 2);
        is("lost", x.cursorIs(0, 3), 1);
        is("a tail and an end in a page", x.step(0, true), 3);
        is("near", x.cursorIs(0, 1), 3);
        is("there is none", x.step(0, true), -3);
        is("it stays", x.cursorIs(0, 0), 3);
        is("nothing is counted", x.cursorIs(0, 1) * 100 + x.cursorIs(0, 2) * 10 + x.cursorIs(0, 3), 321);
        is("told again", x.cursor(0, told(x, "b")), 0);
        is("counts are 0", x.cursorIs(0, 1) + x.cursorIs(0, 2) + x.cursorIs(0, 3), 0);
        is("a cursor not there goes back", x.cursor(3, told(x, "bb")), 0);
        is("to the last one ahead", x.step(3, false), 1);
        is("no key", x.cursor(3, told(x, "b;")), -2);
        is("it stays", x.cursorIs(3, 0) * 10 + x.cursorIs(3, 3), 11);
        told(x, ";");
        is("none such", x.cursor(4, 1) + x.cursor(-1, 1) + x.cursor(0, 0) + x.cursor(0, 25), -4);
        is("the tape stays", x.count(15), 20);
        is("none such", x.step(4, true) + x.step(-1, false), -2);
        is("not told", x.step(2, true), -4);
        is("not told", x.cursorIs(2, 0), -1);
        is("none such", x.cursorIs(0, 4) + x.cursorIs(0, 9) + x.cursorIs(0, 34) + x.cursorIs(0, -1), -4);
        is("none such", x.cursorIs(4, 0) + x.cursorIs(-1, 0), -2);
        is("the last of 24", x.cursorIs(0, 33), -4);
        x.query(0);
        is("cursor", x.cursor(1, told(x, LONGEST)), 0);
        is("the last of 24", x.cursorIs(1, 33), 'x');
    }

    private static void full8() {
        PageTrie x = with(4, 4, "+a=1;+b=2;+c=3;+d=4;+e=5;+abcde=1;+abcdf=1");
        is("pages", pages(x, 0) * 10 + pages(x, 1), 332);
        is("two, three", x.full(2) * 10 + x.full(3), 12);
        is("others", x.full(1) + x.full(4) + x.full(8), 0);
        is("none such", x.full(0) + x.full(9) + x.full(-1), -3);
    }

    private static void layer() {
        PageTrie x = with(2, 2, "+b=1;+aabbc=2;+aabbd=3;+aac=4;+cca=5;+ccb=6;+cc=7");
        // top: aa b cc cc; aa: bb c; aabb: c d; cc: a b
        is("layers", x.count(3), 4);
        int[][] want = {{0, 4, 3, 7}, {2, 2, 1, 3}, {4, 2, 1, 2}, {2, 2, 1, 2}};
        for (int l = 0; l < 4; l++) {
            for (int what = 0; what < 4; what++) {
                is("layer " + l + " " + what, x.layer(l, what), want[l][what]);
            }
        }
        is("pages of the top", pages(x, 0), 112);
        is("not so many", x.layer(0, 13), -4);
        is("not so many", x.layer(3, Integer.MAX_VALUE), -4);
        is("none such", x.layer(4, 0) + x.layer(-1, 0) + x.layer(0, 4) + x.layer(0, 9) + x.layer(0, -1), -5);
        is("of an empty top", new PageTrie().layer(0, 3), 0);
        is("none such", new PageTrie().layer(1, 10), -1);
    }

    private static void entry() {
        PageTrie x = with(2, 2, "+b=1;+aabbc=2;+aabbd=3;+aac=4;+ccabc=5;+cc=7");
        // top: aa b cc cc-abc
        is("below", x.entry(0, 0, 0), 2);
        is("its part", x.entry(0, 0, 1) * 10000 + x.entry(0, 0, 10) * 100 + x.entry(0, 0, 11), 29797);
        is("its value", x.entry(0, 0, 2), -2);
        is("its rest", x.entry(0, 0, 3), 0);
        is("byte of its rest", x.entry(0, 0, 20), -4);
        is("end", x.entry(0, 1, 0) * 10 + x.entry(0, 1, 1), 1);
        is("its value", x.entry(0, 1, 2), 1);
        is("part of one byte", x.entry(0, 1, 11), -4);
        is("an end", x.entry(0, 2, 0) * 100 + x.entry(0, 2, 1) * 10 + x.entry(0, 2, 2), 27);
        is("a tail", x.entry(0, 3, 0) * 100 + x.entry(0, 3, 1) * 10 + x.entry(0, 3, 2), 125);
        is("its rest", x.entry(0, 3, 3), 3);
        is("its rest's bytes", x.entry(0, 3, 20) + x.entry(0, 3, 21) + x.entry(0, 3, 22), 'a' + 'b' + 'c');
        is("not so many", x.entry(0, 3, 23), -4);
        is("not so many", x.entry(0, 3, 42), -4);
        is("not so many", x.entry(0, 3, 17), -4);
        is("pages", x.entry(0, 0, 4) * 1000 + x.entry(0, 1, 4) * 100 + x.entry(0, 2, 4) * 10 + x.entry(0, 3, 4), 122);
        is("a layer below", x.entry(1, 0, 0) * 100 + x.entry(1, 0, 10), 298);
        is("a layer below it", x.entry(2, 1, 2), 3);
        is("part of it", x.entry(2, 1, 10), 'd');
        int[] wrong = {-1, 5, 9, 18, 19, 43, Integer.MAX_VALUE, Integer.MIN_VALUE};
        for (int what : wrong) {
            is("no such what " + what, x.entry(0, 0, what), -1);
        }
        is("none such", x.entry(3, 0, 0) + x.entry(-1, 0, 0) + x.entry(0, 4, 0) + x.entry(0, -1, 0), -4);
        PageTrie y = with(1, 2, "+" + LONGEST + "=1");
        is("the longest rest", y.entry(0, 0, 3) * 1000 + y.entry(0, 0, 42), 23120);
        PageTrie z = with(8, 2, "+" + LONGEST + "=1");
        is("the longest part", z.entry(0, 0, 1) * 1000 + z.entry(0, 0, 17), 8104);
    }

    private static void query() {
        PageTrie x = with(4, 4, "+a=1;+ab=2;+abc=3;+b=4;+bb=5;+c=6;+cd=7;+cde=8;+cdef=9");
        String[] texts = {"", "pab", "pb", "px", ">3", "<3", ">3;<6", "l2", "l3", "l0", "e", "o", "k1", "k2", "k3", "k99999",
            "d2", "d9", "d0", "t3", "t0", "t99999", "r", "r;r", "r;t2", "t2;r", "o;k2;r", "pc;d1;r;t2", "e;o",
            "r;d1;k3;r;e", "k00002"};
        int[] rows = {123456789, 23, 45, 0, 456789, 12, 45, 235789, 389, 123456789, 2468, 13579, 123456789, 13579, 147, 1,
            3456789, 0, 123456789, 123, 0, 123456789, 987654321, 123456789, 98, 21, 951, 98, 0,
            28, 13579};
        for (int i = 0; i < texts.length; i++) {
            int found = rows[i] == 0 ? 0 : Integer.toString(rows[i]).length();
            is("query " + texts[i], query(x, texts[i]), found);
            is("rows of " + texts[i], found(x), rows[i]);
        }
        is("eight steps", query(x, "r;r;r;r;r;r;r;r"), 9);
        is("sixty bytes", query(x, "p" + LONGEST + ";p" + LONGEST + ";<1;<2;<3"), 0);
        told(x, "e");
        is("no such n", x.query(-1) + x.query(61) + x.query(21), -3);
        is("the tape stays", x.count(15), 20);
        is("query", x.query(0), 9);
        is("the tape is empty", x.count(15), 0);
    }

    private static void queryFaults() {
        PageTrie x = with(4, 4, "+a=1;+ab=2;+abc=3");
        is("query", query(x, "o"), 2);
        String[] texts = {"x", "p", "p;", "e;", ";", "e1", ">", ">a", "<1a", "k", "k0", "k00000", "k000000", "k123456",
            "t1 ", "r;r;r;r;r;r;r;r;r", "r;r;r;r;r;r;r;r;", "r;r;r;r;r;r;r;r;~", "p" + LONGEST + "y", "pa,b", "e;k0;x",
            "l999999", "d", "k0;>123456", "p=", "E", "o e"};
        int[] faults = {-1000, -1001, -1001, -1002, -1000, -1001, -1001, -1001, -1002, -1001, -3001, -3001, -2006, -2006,
            -1002, -4016, -4016, -4016, -5025, -1002, -3003,
            -2006, -1001, -3001, -1001, -1000, -1001};
        for (int i = 0; i < texts.length; i++) {
            is("query " + texts[i], query(x, texts[i]), faults[i]);
            is("the tape is empty", x.count(15), 0);
            is("the one before stays", x.found(0), 2);
        }
    }

    private static void found() {
        PageTrie x = with(4, 4, "+a=4;+ab=2;+abc=4;+b=7;+bb=9");
        query(x, "<9");
        int[] want = {4, 17, 7, 2, 7, 3};
        for (int what = 0; what < 6; what++) {
            is("found " + what, x.found(what), want[what]);
        }
        orders(x, "+0=0;-b");
        is("as all is now", x.found(0) * 100 + x.found(2) * 10 + x.found(3), 440);
        query(x, "pz");
        is("none", x.found(0) + x.found(1) + x.found(4) + x.found(5), 0);
        is("none", x.found(2), -2);
        is("none", x.found(3), -2);
        is("none such", x.found(6) + x.found(-1), -2);
        query(x, "r;d1");
        is("the first one", x.foundAt(0), 3);
        is("the last one", x.foundAt(3), 0);
        is("not so many", x.foundAt(4), -4);
        is("not so many", x.foundAt(Integer.MAX_VALUE), -4);
        is("none such", x.foundAt(-1) + x.foundAt(Integer.MIN_VALUE), -2);
    }

    private static void takeFound() {
        PageTrie x = with(4, 4, "+a=1;+b=2;+c=3;+d=4;+e=5;+f=6;+g=7");
        query(x, "o");
        is("take", x.takeFound(), 4);
        is("keys", x.count(0) * 100 + x.count(14), 312);
        is("none", x.takeFound(), 0);
        query(x, "");
        is("all", x.takeFound(), 3);
        is("pages", x.count(4), 0);
        // ahead: a, then b, [c d e] is left; the other way round: e, d, c go, [a b] is left
        PageTrie y = with(4, 4, "+a=1;+b=2;+c=3;+d=4;+e=5");
        query(y, "d1;t3");
        is("b c d", y.takeFound() * 10 + y.count(10), 31);
        PageTrie z = with(4, 4, "+a=1;+b=2;+c=3;+d=4;+e=5");
        query(z, "d1;t3;r");
        is("d c b", z.takeFound() * 10 + z.count(10), 31);
        is("joined", pages(z, 0), 2);
        // room 6, half 3: a b c | d e f g; b c go, then d: a | e f g: no; e goes: a f g join
        PageTrie v = with(4, 6, "+a=1;+b=1;+c=1;+d=1;+e=1;+f=1;+g=1");
        is("two pages", pages(v, 0), 34);
        query(v, "d1;t5;r");
        is("f e d c b", v.takeFound() * 10 + v.count(10), 51);
    }

    private static void change() {
        PageTrie x = with(4, 4, "+a=1;+b=2;+c=3;+d=99999");
        query(x, "o");
        is("more", x.change(0, 10), 3);
        is("values", x.key(0, -2) * 1000 + x.key(1, -2) * 100 + x.key(2, -2), 11213);
        is("held to the most", x.key(3, -2), 99999);
        query(x, "<90000");
        is("times", x.change(1, 3), 3);
        is("values", x.key(0, -2) * 10000 + x.key(1, -2) * 100 + x.key(2, -2), 330639);
        is("times the most", x.change(1, 99999) * 100000 + x.key(1, -2), 399999);
        is("as all is now: none is left", x.change(2, 5), 0);
        query(x, "t2");
        is("others", x.change(2, 5), 2);
        is("values", x.key(0, -2) + x.key(1, -2) + x.key(2, -2), 100009);
        is("times none", x.change(1, 0), 2);
        is("values", x.key(0, -2) + x.key(1, -2), 0);
        is("none such", x.change(3, 1) + x.change(-1, 1) + x.change(0, -1) + x.change(2, 100000), -4);
        is("nothing has changed", x.count(14), 199998);
    }

    private static void triedAndBest() {
        PageTrie x = with(4, 4, "+aaab=1;+aaaa=2");
        int[] want = {4, 4, 2, 0, 3, 4, 0, 0, 3, 0, 63};
        for (int what = 3; what <= 13; what++) {
            is("tried " + what, x.tried(1, 2, what), want[what - 3]);
        }
        is("other widths", x.tried(2, 2, 13) * 10000 + x.tried(3, 2, 13) * 100 + x.tried(5, 2, 13), 363524);
        is("best", x.best(0) * 100 + x.best(1), 424);
        is("none such", x.best(2) + x.best(-1), -2);
        is("none such", x.tried(0, 4, 3) + x.tried(9, 4, 3) + x.tried(4, 1, 3) + x.tried(4, 9, 3), -4);
        is("none such", x.tried(4, 4, 2) + x.tried(4, 4, 14) + x.tried(4, 4, -1), -3);
        is("aside", x.count(1) * 100 + x.count(3) * 10 + x.count(11), 410);
        PageTrie y = with(4, 4, "+e=1;+d=1;+c=1;+b=1;+a=1");
        is("in order", y.tried(4, 2, 4) * 10 + y.tried(4, 2, 9), 43);
        is("none has joined", y.tried(4, 2, 10), 0);
        is("of an empty one", new PageTrie().best(0) * 10 + new PageTrie().best(1), 18);
        is("of like ones the least", with(7, 4, "+a=1").best(0), 1);
    }

    private static void keepUndoUnlike() {
        PageTrie x = with(1, 2, "+aa=1;+ab=2;+b=3;+c=4");
        is("nothing kept", x.undo(), false);
        is("nothing kept", x.unlike(0), -2);
        is("none such comes first", x.unlike(3) + x.unlike(-1), -2);
        query(x, "e");
        x.cursor(2, told(x, "ab"));
        x.step(2, true);
        is("keep", x.keep(), 4);
        int[] counts = new int[15];
        for (int what = 0; what < 15; what++) {
            counts[what] = x.count(what);
        }
        orders(x, "-aa;-b;+ab=5;+d=6;+e=7;+f=8;+c=4");
        is("came", x.unlike(0), 3);
        is("went", x.unlike(1), 2);
        is("others", x.unlike(2), 1);
        query(x, "o");
        x.step(2, true);
        x.cursor(0, told(x, "zz"));
        x.feed(0, 0, 0, 0, 0);
        is("undo", x.undo(), true);
        is("the tape stays", x.count(15), 20);
        for (int what = 0; what < 15; what++) {
            is("undone " + what, x.count(what), counts[what]);
        }
        is("the cursor, too", x.cursorIs(2, 0) * 10 + x.cursorIs(2, 2), 21);
        is("one that was not told", x.cursorIs(0, 0), -1);
        is("the query, too", found(x), 24);
        is("unlike", x.unlike(0) + x.unlike(1) + x.unlike(2), 0);
        x.query(0);
        take(x, "c");
        is("again", x.undo(), true);
        is("again", x.count(0), 4);
        take(x, "c");
        is("kept last", x.keep(), 3);
        is("undo", x.undo(), true);
        is("keys", x.count(0), 3);
    }

    private static void check() {
        PageTrie x = with(4, 4, "+abc=1;+b=2");
        told(x, "abc");
        is("none told", x.check(0), -1);
        is("right", x.check(2), -1);
        is("right", x.check(3), -1);
        is("right ones leave the tape", x.count(15), 20);
        is("no such n", x.check(-1), -2);
        is("no such n", x.check(25), -2);
        is("not so many", x.check(21), -2);
        is("the tape stays", x.count(15), 20);
        is("behind the key nothing is", x.check(4), 3);
        is("then the tape is empty", x.count(15), 0);
        is("the first that is not so", x.check(told(x, "axc")), 1);
        is("the first of all", x.check(told(x, "\u00e1bc")), 0);
        PageTrie y = new PageTrie();
        is("without keys nothing is", y.check(told(y, "a")), 0);
        is("nothing told", y.check(0), -1);
        is("of a longest one", with(4, 4, "+" + LONGEST + "=1").check(0), -1);
    }

    public static void main(String[] args) {
        newObject();
        feed();
        begin();
        put();
        layersMadeAndFolded();
        pagesPartAndJoin();
        take();
        ordersDone();
        ordersFaults();
        batch();
        count();
        valueAndRank();
        key();
        near();
        begins();
        alikeAndClosest();
        cursors();
        full8();
        layer();
        entry();
        query();
        queryFaults();
        found();
        takeFound();
        change();
        triedAndBest();
        keepUndoUnlike();
        check();
        DUE.end("PromisesTest");
    }
}
