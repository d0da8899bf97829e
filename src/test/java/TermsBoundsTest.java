/** The sentences of the section 'Terms' that name a boundary: what is due at it, and on both sides of it. */
public final class TermsBoundsTest extends Calls {
    private static final int[] HALF_OF_ROOM = {0, 0, 1, 1, 2, 2, 3, 3, 4};

    private static boolean mayStand(int sign) {
        return sign >= 33 && sign <= 126 && sign != 59 && sign != 61 && sign != 44 && sign != 126;
    }

    private static void bytesOfKeys() {
        says("each 33 to 126 but none of ; = , ~ (59, 61, 44, 126)");
        for (int place = 0; place < 2; place++) {
            PageTrie x = new PageTrie();
            for (int sign = 0; sign < 254; sign++) {
                String key = place == 0 ? (char) sign + "a" : "a" + (char) sign;
                is("at " + place + " byte " + sign, put(x, key, 1), mayStand(sign) ? -3 : -2);
            }
            is("those that came", x.count(0), 90);
            is("the first one's byte", x.key(0, place), 33);
            is("the last one's byte", x.key(89, place), 125);
            PageTrie y = new PageTrie();
            is("byte 254", put(y, "a\u00fe", 1), -2);
            is("byte 255", put(y, "\u00ffa", 1), -2);
        }
        says("likewise in ORDERS");
        for (int sign = 0; sign < 256; sign++) {
            PageTrie x = new PageTrie();
            String key = "a" + (char) sign;
            boolean goesOn = sign == ';';
            is("-KEY with byte " + sign, orders(x, "-" + key), mayStand(sign) ? 0 : goesOn ? -1003 : -1002);
        }
    }

    private static void bytesInAll() {
        says("1 to 24 BYTES");
        PageTrie x = new PageTrie();
        is("1", put(x, "k", 1), -3);
        is("24", put(x, LONGEST, 2), -3);
        is("its last one", x.key(0, 23), 'x');
        is("behind it", x.key(0, 24), -4);
        is("24 in a text", orders(x, "+" + LONGEST + "=3;-" + LONGEST + ";+" + LONGEST + "=4"), 3);
        is("24 on both sides", orders(x, "~" + LONGEST + "," + LONGEST), 1);
        is("24 in a query", query(x, "p" + LONGEST), 0);
        is("1 in a query", query(x, "pk"), 1);
    }

    private static void values() {
        says("a VALUE (0 to 99999)");
        PageTrie x = new PageTrie();
        is("0", put(x, "a", 0), -3);
        is("99999", put(x, "a", 99999), 0);
        is("100000", x.put(told(x, "a"), 100000), -1);
        is("-1", x.put(1, -1), -1);
        is("it is 99999", x.value(1), 99999);
        is("told by texts", orders(x, "+b=0;+c=99999;+d=00000"), 3);
        is("those", x.key(1, -2) + x.key(2, -2) + x.key(3, -2), 99999);
    }

    private static void order() {
        says("In order: by BYTES, one that is the beginning of another one ahead of it");
        PageTrie x = new PageTrie();
        String[] keys = {"a", "a!", "ab", "aba", "b", "B", "}", "!", "9", "+", "~"};
        int[] want = {4, 5, 6, 7, 8, 3, 9, 0, 2, 1};
        for (int i = 0; i < 10; i++) {
            put(x, keys[i], i);
        }
        for (int i = 0; i < 10; i++) {
            is("of " + keys[i], x.rank(told(x, keys[i])), want[i]);
            is("what lies there", x.key(want[i], -2), i);
        }
    }

    private static void keysAtMost() {
        says("150 KEYS at most");
        PageTrie x = full();
        is("one that is new", put(x, "zz", 5), -4);
        is("one that is there", put(x, "xJ", 5), 1);
        is("told by ORDERS", orders(x, "+xJ=6;+zz=1"), 1);
        is("told by a batch", batch(x, "+xJ=7;+zz=1"), -4);
        is("one is taken", take(x, "aA"), 1);
        is("then one may come", put(x, "zz", 5), -3);
        is("and no other", put(x, "aA", 5), -4);
        is("KEYS", x.count(0), 150);
        is("the last one's VALUE", x.key(149, -2), 5);
        is("one goes, one comes", orders(x, "-zz;+aA=2;+zz=2"), 2);
    }

    private static void widthAndRoom() {
        says("WIDTH (1 to 8; 4 at first), ROOM (2 to 8; 4 at first)");
        PageTrie x = new PageTrie();
        is("at first", x.count(1) * 10 + x.count(2), 44);
        int[] wrong = {0, 9, -1, Integer.MAX_VALUE, Integer.MIN_VALUE};
        for (int w : wrong) {
            is("no WIDTH " + w, x.begin(w, 4), -1);
            is("no ROOM " + w, x.begin(4, w), -1);
        }
        is("no ROOM 1", x.begin(4, 1), -1);
        is("as it was", x.count(1) * 10 + x.count(2), 44);
        for (int w = 1; w <= 8; w++) {
            for (int r = 2; r <= 8; r++) {
                is("begin", x.begin(w, r), 0);
                is("both", x.count(1) * 10 + x.count(2), w * 10 + r);
            }
        }
    }

    private static void parts() {
        says("an END: 1 to WIDTH BYTES; TAIL if it is one alone, if there are more, a BELOW");
        for (int w = 1; w <= 8; w++) {
            String part = LONGEST.substring(0, w);
            PageTrie x = with(w, 4, "+" + part + "=1");
            is("WIDTH BYTES: END", x.entry(0, 0, 0) * 100 + x.entry(0, 0, 1) * 10 + x.entry(0, 0, 3), w * 10);
            put(x, part + "A", 2);
            is("the END is ahead", x.entry(0, 0, 0), 0);
            is("one more: TAIL", x.entry(0, 1, 0) * 100 + x.entry(0, 1, 1) * 10 + x.entry(0, 1, 3), 101 + w * 10);
            is("like PARTS", x.entry(0, 1, 9 + w), x.entry(0, 0, 9 + w));
            is("its rest", x.entry(0, 1, 20), 'A');
            is("the top alone", x.count(3), 1);
            put(x, part + "B", 3);
            is("more: BELOW", x.entry(0, 1, 0) * 100 + x.entry(0, 1, 1) * 10 + x.entry(0, 1, 3), 200 + w * 10);
            is("VALUE of none", x.entry(0, 1, 2), -2);
            is("the LAYER's beginning", x.layer(1, 0), w);
            is("only longer ones are in it", x.layer(1, 3), 2);
            is("all are below the top", x.layer(0, 3), 3);
            is("the END stays", x.entry(0, 0, 2), 1);
        }
        says("the next BYTES behind P, WIDTH at most");
        PageTrie y = with(3, 4, "+abcd=1;+abcdefgh=2");
        is("an END of one", y.entry(1, 0, 1), 1);
        is("a PART of three", y.entry(1, 1, 1) * 10 + y.entry(1, 1, 3), 32);
    }

    private static void layersOfLongest() {
        says("P has a multiple of WIDTH BYTES; which may make more LAYERS, likewise");
        int[] layers = {0, 24, 12, 8, 6, 5, 4, 4, 3};
        String other = LONGEST.substring(0, 23) + "y";
        for (int w = 1; w <= 8; w++) {
            PageTrie x = with(w, 2, "+" + LONGEST + "=1");
            is("one alone", x.count(3) * 10 + x.count(8), 11);
            is("its rest", x.entry(0, 0, 3), 24 - w);
            put(x, other, 2);
            is("LAYERS of WIDTH " + w, x.count(3), layers[w]);
            is("one below the other", x.count(8), layers[w]);
            is("MADE", x.count(11), layers[w] - 1);
            is("the lowest one's beginning", x.layer(layers[w] - 1, 0), (layers[w] - 1) * w);
            is("both are in it", x.layer(layers[w] - 1, 3) * 10 + x.layer(layers[w] - 1, 1), 22);
            is("AWAY", x.key(1, -3), layers[w]);
            is("none more", x.layer(layers[w], 0), -1);
            take(x, LONGEST);
            is("FOLDED", x.count(12) * 100 + x.count(3), layers[w] * 100 - 99);
            is("a TAIL of that KEY", x.entry(0, 0, 0) * 100 + x.entry(0, 0, 3), 124 - w);
            is("its last BYTE", x.entry(0, 0, 43 - w), 'y');
        }
    }

    private static void whereOneComes() {
        says("into the last PAGE whose first ENTRY is not behind it");
        String three = "+b=1;+d=2;+f=3";
        is("three in ROOM of two", pages(with(4, 2, three), 0), 12);
        is("between the PAGES: the one ahead", pages(with(4, 2, three + ";+c=4"), 0), 22);
        is("within the last one", pages(with(4, 2, three + ";+e=4"), 0), 112);
        is("behind all", pages(with(4, 2, three + ";+g=4"), 0), 112);
        says("the first PAGE, if there is none such");
        is("ahead of all", pages(with(4, 2, three + ";+a=4"), 0), 22);
        is("and parts", pages(with(4, 2, three + ";+a=4;+A=5"), 0), 122);
        says("a new PAGE in an empty LAYER");
        is("one", pages(with(4, 2, "+b=1"), 0), 1);
        is("after all went", pages(with(4, 2, "+b=1;-b;+c=1"), 0), 1);
        says("of like PARTS the END is ahead");
        PageTrie x = with(2, 2, "+aa=1;+abc=2;+b=3");
        is("a TAIL is the first of its PAGE", pages(x, 0) * 10 + x.entry(0, 1, 0), 121);
        put(x, "ab", 4);
        is("its END comes ahead", pages(x, 0) * 10 + x.entry(0, 1, 0), 220);
        PageTrie y = with(2, 2, "+aa=1;+ab=2;+b=3");
        is("an END is the first of its PAGE", pages(y, 0) * 10 + y.entry(0, 1, 0), 120);
        put(y, "abc", 4);
        is("its TAIL comes behind, and parts", pages(y, 0) * 10 + y.entry(0, 2, 0), 1121);
        PageTrie z = with(2, 2, "+aa=1;+abc=2;+abd=2;+b=3;+ab=4");
        is("ahead of a BELOW, too", pages(z, 0) * 100 + z.entry(0, 1, 0) * 10 + z.entry(0, 2, 0), 2202);
    }

    private static String letters(int many, boolean isBackward) {
        StringBuilder items = new StringBuilder();
        for (int i = 0; i < many; i++) {
            char sign = (char) ('a' + (isBackward ? many - 1 - i : i));
            items.append(i == 0 ? "+" : ";+").append(sign).append("=1");
        }
        return items.toString();
    }

    private static void pagesPart() {
        says("If that has more than ROOM ENTRIES then, it PARTS: half of them (cut), the first ones, stay");
        int[] parted = {0, 0, 12, 22, 23, 33, 34, 44, 45};
        for (int room = 2; room <= 8; room++) {
            PageTrie x = with(4, room, letters(room, false));
            is("as many as ROOM", pages(x, 0) * 10 + x.count(9), room * 10);
            put(x, "z", 1);
            is("one more", pages(x, 0) * 10 + x.count(9), parted[room] * 10 + 1);
            PageTrie y = with(4, room, letters(room + 1, true));
            is("backward, too", pages(y, 0) * 10 + y.count(9), parted[room] * 10 + 1);
            is("full PAGES", y.full(room), room == 2 ? 1 : 0);
        }
        says("the others are a new PAGE behind it");
        PageTrie z = with(4, 2, "+a=1;+b=1;+e=1;+f=1;+A=1;+B=1");
        is("between two", pages(z, 0) * 10 + z.count(9), 12123);
        is("in a LAYER below", pages(with(1, 3, "+xa=1;+xb=1;+xc=1;+xd=1"), 1), 22);
    }

    private static void pagesGo() {
        says("An ENTRY that goes leaves its PAGE; a PAGE without any goes");
        PageTrie x = with(4, 4, "+a=1;+b=2;+c=3;+d=4;+e=5;-b;-e");
        is("one, two", pages(x, 0), 12);
        take(x, "a");
        is("it goes, and joins none", pages(x, 0) * 10 + x.count(10), 20);
        PageTrie y = with(4, 2, "+a=1;+b=2;+c=3;+d=4");
        take(y, "b");
        is("in the middle", pages(y, 0) * 10 + y.count(10), 120);
        take(y, "a");
        is("the first one", pages(y, 0) * 10 + y.count(10), 20);
        is("within a PAGE", pages(with(4, 4, "+a=1;+b=2;+c=3;+d=4;-b"), 0), 3);
        is("the first of a PAGE", pages(with(4, 2, "+a=1;+b=2;+c=3;-b"), 0), 11);
        says("the BELOW ahead of which KEYS go stays in its PAGE");
        PageTrie b = with(1, 2, "+a=1;+ba=1;+bb=1;+bc=1;+c=1");
        is("the first of its PAGE", pages(b, 0), 12);
        take(b, "ba");
        is("its first KEY goes", pages(b, 0) * 10 + b.entry(0, 1, 0), 122);
        take(b, "bb");
        is("it becomes a TAIL", pages(b, 0) * 10 + b.entry(0, 1, 0), 121);
        is("PAGES of both", b.key(1, -3) * 10 + b.key(2, -3), 22);
        PageTrie z = with(4, 2, "+a=1;+b=2;+c=3;-c;-b;-a");
        is("the last one", z.count(4) * 100 + z.layer(0, 1) * 10 + z.count(10), 0);
        is("the top stays", z.count(3), 1);
    }

    /** The last PAGE is brought to one ENTRY, the first one to so many, one by one. */
    private static void joinAtHalf(int room) {
        PageTrie x = with(4, room, letters(room + 1, false));
        int stay = (room + 1) / 2;
        for (int i = room; i > stay; i--) {
            take(x, String.valueOf((char) ('a' + i)));
        }
        for (int first = stay; first > 0; first--) {
            boolean isJoined = first + 1 <= HALF_OF_ROOM[room];
            if (isJoined) {
                is("half of ROOM " + room, pages(x, 0) * 10 + x.count(10), HALF_OF_ROOM[room] * 10 + 1);
                return;
            }
            is("more than half of ROOM " + room, pages(x, 0) * 10 + x.count(10), first * 100 + 10);
            take(x, String.valueOf((char) ('a' + first - 1)));
        }
        is("never in ROOM " + room, pages(x, 0) * 10 + x.count(10), 10);
        is("half of that is one", HALF_OF_ROOM[room], 1);
    }

    private static void pagesJoin() {
        says("if it and the PAGE behind it, together, have no more than half of ROOM (cut), they JOIN");
        for (int room = 2; room <= 8; room++) {
            joinAtHalf(room);
        }
        says("else the PAGE ahead and it likewise");
        String five = "+a=1;+b=2;+c=3;+d=4;+e=5";
        is("the last PAGE", pages(with(4, 4, five + ";-a;-e;-d"), 0), 2);
        is("not more than half", pages(with(4, 4, five + ";-e;-d"), 0), 21);
        String thirteen = "+a=1;+b=1;+c=1;+d=1;+e=1;+f=1;+g=1;+h=1;+i=1;+j=1;+k=1;+l=1;+m=1";
        PageTrie x = with(4, 8, thirteen);
        orders(x, "-c;-d;-m;-l;-k;-e");
        is("two, three, two", pages(x, 0) * 10 + x.count(10), 2320);
        take(x, "f");
        is("that behind first, and once", pages(x, 0) * 10 + x.count(10), 241);
        PageTrie y = with(4, 8, thirteen);
        orders(y, "-c;-d;-m;-l;-e;-f");
        is("two, two and three: that ahead", pages(y, 0) * 10 + y.count(10), 431);
        PageTrie u = with(4, 8, thirteen);
        orders(u, "-f;-g;-h;-i;-j");
        is("one ENTRY in the PAGE ahead", pages(u, 0) * 10 + u.count(10), 441);
        says("in a LAYER below");
        PageTrie z = with(1, 4, "+xa=1;+xb=1;+xc=1;+xd=1;+xe=1;-xe;-xd;-xa");
        is("they JOIN", pages(z, 1) * 10 + z.count(10), 21);
        PageTrie v = with(1, 4, "+a=1;+b=1;+c=1;+d=1;+dd=1;+e=1;-d;-e;-c;-b");
        is("of an END and its TAIL one goes", pages(v, 0) * 10 + v.count(10), 21);
    }

    private static void putAgain() {
        says("PUT: a KEY that is there gets the VALUE");
        PageTrie x = with(1, 2, "+aa=1;+ab=2;+ac=3;+b=4;+c=5");
        int before = x.count(9) * 1000 + x.count(11) * 100 + x.count(4) * 10 + x.count(3);
        is("PUT", put(x, "ab", 7), 2);
        is("nothing else", x.count(9) * 1000 + x.count(11) * 100 + x.count(4) * 10 + x.count(3), before);
        is("VALUES", x.count(14), 20);
    }

    private static void made() {
        says("if a TAIL is there, a LAYER is MADE: its ENTRY becomes a BELOW where it lies");
        PageTrie x = with(2, 2, "+aab=1;+b=2;+c=3");
        is("PAGES", pages(x, 0), 12);
        put(x, "aac", 4);
        is("PAGES as they were", pages(x, 0) * 10 + pages(x, 1), 122);
        is("a BELOW", x.entry(0, 0, 0) * 10 + x.count(11), 21);
        is("none has PARTED", x.count(9), 1);
        says("which may make more LAYERS, likewise");
        is("one more below one that is there", with(1, 4, "+abx=1;+acx=2;+abw=3").count(11), 2);
        is("behind it", with(1, 4, "+abx=1;+acx=2;+acy=3").count(11), 2);
        is("two more below", with(1, 4, "+abxx=1;+acx=2;+abxw=3").count(11), 3);
        is("beside another LAYER", with(1, 4, "+a=1;+b=1;+ca=1;+cb=1;+da=1;+db=1").count(11), 2);
        says("an END comes; or a TAIL, if nobody goes on behind that PART");
        is("behind an END", pages(with(2, 4, "+aa=1;+aab=2"), 0), 2);
        is("an END behind a TAIL", with(2, 4, "+aab=2;+aa=1").count(3), 1);
        is("an END of a BELOW's PART", with(2, 4, "+aab=2;+aac=3;+aa=1").layer(0, 1), 2);
        says("the old KEY, then the new one, come into the new LAYER");
        PageTrie y = with(2, 2, "+aabb=1;+aabbc=2");
        is("an END and a TAIL of like PARTS below", y.entry(1, 0, 0) * 10 + y.entry(1, 1, 0), 1);
        is("one MADE", y.count(11), 1);
        PageTrie z = with(2, 2, "+aabbc=2;+aabb=1");
        is("the other way round", z.entry(1, 0, 0) * 10 + z.entry(1, 1, 0), 1);
        is("one MADE", z.count(11), 1);
    }

    private static void folded() {
        says("one that has a single ENTRY which is no BELOW, and isn't at the top, is FOLDED");
        PageTrie x = with(1, 4, "+a=1;+b=2;-a");
        is("not at the top", x.count(12) * 10 + x.count(3), 1);
        PageTrie y = with(1, 4, "+aa=1;+aba=2;+abb=3");
        is("LAYERS", y.count(3), 3);
        is("TAKEN", take(y, "aa"), 1);
        is("a single BELOW is not FOLDED", y.count(12) * 10 + y.count(3), 3);
        is("TAKEN", take(y, "abb"), 3);
        is("the lowest first, then that one", y.count(12) * 10 + y.count(3), 21);
        PageTrie z = with(1, 4, "+a=1;+ab=2;+ac=3;-ac");
        is("beside an END at the top", z.count(12) * 10 + z.count(3), 11);
        is("a TAIL where it lies", z.entry(0, 1, 0) * 10 + z.entry(0, 1, 3), 11);
        PageTrie w = with(1, 4, "+ab=1;+abc=2;+abd=3;+abe=4;-abe");
        is("two are left", w.count(12) * 10 + w.count(3), 3);
        orders(w, "-abd");
        is("an END and a TAIL are left", w.count(12) * 10 + w.count(3), 12);
        orders(w, "-abc");
        is("an END is left, of two BYTES: a TAIL", w.count(12) * 10 + w.count(3), 21);
        is("its rest", w.entry(0, 0, 0) * 10 + w.entry(0, 0, 3), 11);
        says("of the LAYERS on its way");
        is("beside others, the first", with(1, 4, "+Aa=1;+Ab=1;+aa=1;+ab=1;-aa").count(12), 1);
        is("behind one of its own", with(1, 4, "+aa=1;+ab=1;+ba=1;+bb=1;-ba").count(12), 1);
        is("behind two of a LAYER", with(1, 4, "+aa=1;+ab=1;+ac=1;+ba=1;+bb=1;-ba;-a").count(12), 1);
        is("at the end of a deeper one", with(1, 4, "+aa=1;+aba=1;+abb=1;-aba").count(12), 1);
        is("beside others, the last", with(1, 4, "+Aa=1;+Ab=1;+aa=1;+ab=1;-Ab").count(12), 1);
        is("behind deeper ones", with(1, 4, "+Aaa=1;+Aab=1;+aa=1;+ab=1;-aa").count(12), 1);
        is("ahead of deeper ones", with(1, 4, "+Aa=1;+Ab=1;+aaa=1;+aab=1;-Aa").count(12), 1);
        is("none of one that stays behind another", with(1, 4, "+A=1;+aa=1;+ab=1;+ac=1;-aa").count(12), 0);
        is("none of one that stays", with(1, 4, "+aa=1;+ab=1;+ac=1;-aa;-b").count(12), 0);
        says("PAGES of the LAYER ahead stay");
        PageTrie v = with(1, 2, "+aa=1;+ab=1;+b=1;+c=1");
        is("PAGES", pages(v, 0), 12);
        take(v, "ab");
        is("PAGES, none JOINED", pages(v, 0) * 10 + v.count(10), 120);
    }

    private static void itemsAtMost() {
        says("ORDERS: a TEXT of at most 200 bytes");
        PageTrie x = new PageTrie();
        String item = "+" + LONGEST + "=1;";
        String most = item.repeat(7) + "+ab=";
        is("bytes", told(x, most), 200);
        is("201", x.orders(201) + x.batch(201), -2);
        is("200, a fault at its end", x.orders(200), -1200);
        is("200 of a batch", batch(x, most), -1200);
        is("199, done", x.orders(told(x, item.repeat(7) + "-a")), 7);
        is("200, done", orders(x, item.repeat(7) + "+a=1"), 8);
        is("1", orders(x, "+"), -1001);
        says("ITEMS with a ; between, 20 at most");
        is("20", orders(x, "+a=1;".repeat(19) + "-a"), 20);
        is("20 and no more than a ;", orders(x, "+a=1;".repeat(20)), -4100);
        is("21", orders(x, "+a=1;".repeat(20) + "-a"), -4100);
        is("21 of a batch", batch(x, "+a=1;".repeat(20) + "-a"), -4100);
        is("nothing is done", x.count(0), 1);
        says("one to five digits");
        is("none", orders(x, "+a="), -1003);
        is("one", orders(x, "+a=7"), 1);
        is("five", orders(x, "+a=00009"), 1);
        is("six", orders(x, "+a=000001"), -2008);
        is("it is 9", value(x, "a"), 9);
    }

    private static void faultsOfItems() {
        says("FAULTS, the first from the left");
        PageTrie x = new PageTrie();
        is("1 ahead of 2", orders(x, "x;+a=123456"), -1000);
        is("2 ahead of 1", orders(x, "+a=123456;x"), -2008);
        is("5 ahead of 2", orders(x, "+" + LONGEST + "y=123456"), -5025);
        is("2 ahead of 4", orders(x, "-a;".repeat(19) + "+a=123456;-a"), -2065);
        is("1 ahead of 4", orders(x, "-a;".repeat(19) + "-a,-a"), -1059);
        is("4 ahead of 5", orders(x, "-a;".repeat(20) + "-" + LONGEST + "y"), -4060);
        says("of one place that of the least number: 1 what can't stand there (the end, too)");
        is("the end behind each", orders(x, "+"), -1001);
        is("no KEY byte as the 25th", orders(x, "-" + LONGEST + "~"), -1025);
        is("no digit as the sixth", orders(x, "+a=12345x"), -1008);
        is("a = behind a KEY that goes", orders(x, "-a="), -1002);
        is("a ~ in a KEY", orders(x, "~a~b"), -1002);
        is("a ; at the beginning", orders(x, ";-a"), -1000);
        is("two ;", orders(x, "-a;;-a"), -1003);
        is("the end behind a ;", orders(x, "-a;"), -1003);
        is("a byte of 0", orders(x, "-a\u0000"), -1002);
        is("a byte of 255", orders(x, "\u00ff"), -1000);
        says("1 what can't stand there (the end, too), whatever the tape has behind it");
        is("a = is behind the end", x.orders(told(x, "+a=1") - 2), -1002);
        is("a digit is behind the end", x.orders(told(x, "+a=1") - 1), -1003);
        is("a KEY's BYTE is behind the end", x.orders(told(x, "-a;-b") - 1), -1004);
        is("a , is behind the end", x.orders(told(x, "~a,b") - 2), -1002);
        is("a 25th BYTE is behind the end", x.orders(told(x, "-" + LONGEST + "y") - 1), 0);
        is("a sixth digit is behind the end", x.orders(told(x, "+a=123456") - 1), 1);
        is("what can't stand there is behind the end", x.orders(told(x, "-a;;") - 2), 1);
        says("5 a 25th BYTE of a KEY, at it");
        is("of +", orders(x, "+" + LONGEST + "y=1"), -5025);
        is("of the other KEY of ~", orders(x, "~a," + LONGEST + "y"), -5027);
        says("4 a 21st ITEM, where it begins (whatever stands there)");
        for (String sign : new String[] {"", "-a", ";", "x", "\u0000"}) {
            is("with " + sign, orders(x, "-a;".repeat(20) + sign), -4060);
        }
    }

    private static void refusedItems() {
        says("Refused are a PUT of a new KEY with 150 there");
        PageTrie x = full();
        is("a new one", orders(x, "+zz=1"), 0);
        is("one that is there", orders(x, "+aA=1"), 1);
        says("-KEY of one that isn't there");
        is("there, then not", orders(x, "-aA;-aA"), 1);
        is("a beginning", orders(x, "-b"), 0);
        says("~ by which none is TAKEN");
        is("none between", orders(x, "~bU,bZ"), 0);
        is("the wrong way round", orders(x, "~bC,bB"), 0);
        says("~KEY,KEY (all KEYS from the first to the other one TAKEN, in order)");
        is("the first and the other one, too", orders(x, "~bB,bD"), 1);
        is("three went", x.count(0), 146);
        is("both sides stay", value(x, "bA") + value(x, "bE"), 2);
        is("from one to itself", orders(x, "~bE,bE") * 1000 + x.count(0), 1145);
        is("neither is there", orders(x, "~b,c") * 1000 + x.count(0), 1129);
        is("all", orders(x, "~!,}") * 1000 + x.count(0), 1000);
        is("none is left", orders(x, "~!,}"), 0);
    }

    private static void stepsAtMost() {
        says("A QUERY: a TEXT of at most 60 bytes");
        PageTrie x = with(4, 4, "+a=1;+b=2");
        String long52 = "p" + LONGEST + ";p" + LONGEST + ";";
        is("bytes", told(x, long52 + "t1;t2;t3;"), 61);
        is("61", x.query(61), -1);
        is("60", x.query(60), 0);
        is("60, a fault at its end", query(x, long52 + "t11;t2;<"), -1060);
        says("STEPS with a ; between, 8 at most");
        is("8", query(x, "e;e;e;e;e;e;e;e"), 1);
        is("9", query(x, "e;e;e;e;e;e;e;e;e"), -4016);
        is("8 and no more than a ;", query(x, "e;e;e;e;e;e;e;e;"), -4016);
        is("8, then what is no ;", query(x, "e;e;e;e;e;e;e;ee"), -1015);
        says("NUMBERS have one to five digits");
        for (String kind : new String[] {">", "<", "l", "k", "d", "t"}) {
            is("none", query(x, kind), -1001);
            is("five", Math.min(0, query(x, kind + "00001")), 0);
            is("six", query(x, kind + "000001"), -2006);
            is("a sixth one behind a ;", query(x, "e;" + kind + "999999;x"), -2008);
        }
    }

    private static void faultsOfSteps() {
        says("3 k of 0, at its first digit, asked when it ends");
        PageTrie x = with(4, 4, "+a=1;+b=2");
        is("one 0", query(x, "k0"), -3001);
        is("five of them", query(x, "e;k00000;x"), -3003);
        is("ahead of what can't stand behind it", query(x, "k0x"), -3001);
        is("a sixth digit comes first", query(x, "k000000"), -2006);
        is("1", query(x, "k00001"), 2);
        is("no other step", query(x, "d0;t0;l0;<0;>0"), 0);
        says("4 a ninth STEP, where it begins (whatever stands there)");
        for (String sign : new String[] {"", "e", ";", "x", "k0", "\u00ff"}) {
            is("with " + sign, query(x, "r;r;r;r;r;r;r;r;" + sign), -4016);
        }
        is("a fault ahead of it", query(x, "r;r;r;r;r;r;r;k0;r"), -3015);
        says("5 likewise");
        is("a 25th BYTE", query(x, "e;p" + LONGEST + "y"), -5027);
        is("none such", query(x, "p" + LONGEST + "~"), -1025);
        is("none at all", query(x, "p;e"), -1001);
        says("1 likewise");
        is("a digit is behind the end", x.query(told(x, ">1") - 1), -1001);
        is("a KEY is behind the end", x.query(told(x, "e;pa") - 1), -1003);
        is("a STEP is behind the end", x.query(told(x, "e;o") - 1), -1002);
        is("a sixth digit is behind the end", x.query(told(x, "d000001") - 1), 2);
        is("a 0 is behind the end", x.query(told(x, "k10") - 1), 2);
        is("what is behind the end is no STEP", x.query(told(x, "e;t0") - 3), 1);
        is("none are FOUND", query(x, "t0"), 0);
        is("a number behind e", query(x, "e1"), -1001);
        is("a KEY that is none", query(x, "p="), -1001);
        is("a ; at the beginning", query(x, ";e"), -1000);
        is("the end behind a ;", query(x, "e;"), -1002);
        is("the QUERY is as it was", x.found(0), 0);
    }

    private static void stepsAtTheirBounds() {
        PageTrie x = with(4, 4, "+a=0;+ab=5;+abc=6;+" + LONGEST + "=7;+c=99999");
        says(">NUMBER, <NUMBER (VALUE above, below)");
        is(">0", query(x, ">0"), 4);
        is(">5", query(x, ">5"), 3);
        is(">99998", query(x, ">99998"), 1);
        is(">99999", query(x, ">99999"), 0);
        is("<99999", query(x, "<99999"), 4);
        is("<6", query(x, "<6"), 2);
        is("<1", query(x, "<1"), 1);
        is("<0", query(x, "<0"), 0);
        says("lNUMBER (of so many BYTES or more)");
        is("l0", query(x, "l0"), 5);
        is("l1", query(x, "l1"), 5);
        is("l2", query(x, "l2"), 3);
        is("l24", query(x, "l24"), 1);
        is("l25", query(x, "l25"), 0);
        says("pKEY (those that begin with it)");
        is("a KEY begins with itself", query(x, "pabc"), 2);
        is("not with what is longer", query(x, "pabd"), 0);
        says("e, o (VALUE even, odd)");
        is("0 is even", query(x, "e"), 2);
        is("odd", query(x, "o"), 3);
        says("kNUMBER (every so-manieth: the first, ..)");
        is("k1", query(x, "k1"), 5);
        is("k4", query(x, "k4"), 2);
        is("the fifth", x.foundAt(1), 4);
        is("k5", query(x, "k5") * 10 + x.foundAt(0), 10);
        says("dNUMBER (not the first so many)");
        is("d0", query(x, "d0"), 5);
        is("d4", query(x, "d4") * 10 + x.foundAt(0), 14);
        is("d5", query(x, "d5"), 0);
        says("tNUMBER (no more than so many)");
        is("t0", query(x, "t0"), 0);
        is("t5", query(x, "t5"), 5);
        is("t6", query(x, "t6"), 5);
        says("r (from now on the other way round: all that are left by then)");
        is("of one", query(x, "l24;r") * 10 + x.foundAt(0), 13);
        is("of none", query(x, "t0;r"), 0);
        is("of an even row", query(x, "t4;r") * 100 + x.foundAt(0) * 10 + x.foundAt(3), 430);
        is("its middle", x.foundAt(1) * 10 + x.foundAt(2), 21);
        is("of an odd row", query(x, "r") * 100 + x.foundAt(0) * 10 + x.foundAt(4), 540);
        is("its middle", x.foundAt(1) * 100 + x.foundAt(2) * 10 + x.foundAt(3), 321);
        is("what is left later is not turned again", query(x, "t4;r;d1;t2") * 100 + x.foundAt(0) * 10 + x.foundAt(1), 221);
    }

    private static void awayAndWeight() {
        says("AWAY: from the first one to the one it goes through");
        PageTrie x = with(1, 2, "+a=1;+b=1;+ca=1;+cb=1;+cc=1");
        is("PAGES", pages(x, 0) * 100 + pages(x, 1), 1212);
        is("in the first PAGE", x.key(0, -3), 1);
        is("in the second one", x.key(1, -3), 2);
        is("below, first", x.key(2, -3), 3);
        is("below, second", x.key(3, -3) + x.key(4, -3), 8);
        PageTrie y = with(1, 2, "+aa=1;+ab=1;+ac=1;+ba=1;+bb=1");
        is("PAGES", pages(y, 0) * 1000 + pages(y, 1) * 10 + pages(y, 2), 2122);
        is("not those of LAYERS beside it", y.key(4, -3) * 10 + y.key(2, -3), 23);
        says("WEIGHT");
        is("without KEYS", new PageTrie().count(13), 8);
        is("an END of one", with(1, 2, "+a=1").count(13), 8 + 4 + 2 + 1);
        is("a TAIL with its rest", with(1, 2, "+" + LONGEST + "=1").count(13), 8 + 4 + 2 + 24);
        is("a BELOW, without what lies below", with(2, 2, "+abc=1;+abd=1").count(13), 12 + 4 + 12 + 3 + 3);
    }

    private static void cursors() {
        says("CURSORS 0 to 3, each told or not (not at first)");
        PageTrie x = with(4, 4, "+b=1;+d=2");
        is("none such", x.step(-1, true) + x.step(4, true), -2);
        for (int c = 0; c < 4; c++) {
            is("not told", x.step(c, true) * 10 + x.cursorIs(c, 1), -41);
            is("told", cursor(x, c, "abcd".substring(c, c + 1)), 0);
        }
        says("to the first KEY behind that; back: to the last one ahead");
        is("ahead of all, back", x.step(0, false), -3);
        is("ahead of all, forth", x.step(0, true), 0);
        is("at the first, back", x.step(1, false), -3);
        is("between, forth", x.step(2, true), 1);
        is("at the last, forth", x.step(3, true), -3);
        is("at the last, back", x.step(3, false), 0);
        is("behind all, forth", cursor(x, 0, "e") + x.step(0, true), -3);
        is("behind all, back", x.step(0, false), 1);
        is("without KEYS", orders(x, "~a,z") + x.step(0, true) + x.step(0, false), -5);
    }

    private static void stepsTold() {
        says("NEAR, if that one's END or TAIL and the other one's lie in the same PAGE (as all is then), else FAR");
        PageTrie x = with(1, 2, "+a=1;+ab=2;+ac=3;+b=4");
        is("PAGES", pages(x, 0) * 10 + pages(x, 1), 122);
        cursor(x, 0, "a");
        x.step(0, true);
        is("an END, and one in a LAYER below", x.cursorIs(0, 2), 1);
        x.step(0, true);
        is("beside one another below", x.cursorIs(0, 1), 1);
        x.step(0, true);
        is("from below to the top", x.cursorIs(0, 2), 2);
        PageTrie y = with(4, 2, "+a=1;+b=2;+c=3");
        cursor(y, 1, "b");
        y.step(1, false);
        is("PAGES beside one another", y.cursorIs(1, 2), 1);
        take(y, "c");
        put(y, "aa", 1);
        y.step(1, true);
        is("the same PAGE now", y.cursorIs(1, 1), 1);
        says("It is LOST, if the KEY at which it was is not there");
        take(y, "aa");
        y.step(1, true);
        is("LOST", y.cursorIs(1, 3) * 100 + y.cursorIs(1, 1) * 10 + y.cursorIs(1, 2), 111);
        says("each counted of a CURSOR since it was told");
        cursor(y, 1, "b");
        is("told again", y.cursorIs(1, 3) + y.cursorIs(1, 1) + y.cursorIs(1, 2), 0);
        is("of its own", x.cursorIs(0, 2) * 10 + x.cursorIs(0, 1), 21);
    }

    private static void countersAtFirst() {
        says("COUNTERS (0 at first)");
        PageTrie x = new PageTrie();
        is("new", x.count(9) + x.count(10) + x.count(11) + x.count(12), 0);
        orders(x, "+a=1;+b=1;+c=1;+d=1;+e=1;-a;-e;-d;+abcda=1;+abcdb=1;-abcda");
        is("one each", x.count(9) * 1000 + x.count(10) * 100 + x.count(11) * 10 + x.count(12), 1111);
        is("begin", x.begin(4, 4), 0);
        is("0 again", x.count(9) + x.count(10) + x.count(11) + x.count(12), 0);
    }

    public static void main(String[] args) {
        bytesOfKeys();
        bytesInAll();
        values();
        order();
        keysAtMost();
        widthAndRoom();
        parts();
        layersOfLongest();
        whereOneComes();
        pagesPart();
        pagesGo();
        pagesJoin();
        putAgain();
        made();
        folded();
        itemsAtMost();
        faultsOfItems();
        refusedItems();
        stepsAtMost();
        faultsOfSteps();
        stepsAtTheirBounds();
        awayAndWeight();
        cursors();
        stepsTold();
        countersAtFirst();
        DUE.end("TermsBoundsTest");
    }
}
