/**
 * An index of long keys as a trie of small ordered pages.
 *
 * <p>The keys lie in one ordered row. Two keys beside one another lie in the same layers down to one depth, and
 * in exactly that depth their entries part; so one depth and one mark (does a page begin there?) a key tell all
 * layers, entries and pages, and no call has to make an object.
 */
public final class PageTrie {
    public static final int NONE = -1;

    private static final int NO_KEY = -2;
    private static final int NO_SUCH_THING = -2;
    private static final int NOT_THERE = -3;
    private static final int NOT_SO_MANY = -4;
    private static final int NOT_TOLD = -4;
    private static final int NO_ROOM_LEFT = -4;

    private static final int MOST_KEYS = 150;
    private static final int KEY_BYTES = 24;
    private static final int MOST_VALUE = 99999;
    private static final int FIRST_WIDTH = 4;
    private static final int FIRST_ROOM = 4;
    private static final int MOST_WIDTH = 8;
    private static final int LEAST_ROOM = 2;
    private static final int MOST_ROOM = 8;
    private static final int TAPE_BYTES = 240;
    private static final int FEED_BYTES = 20;
    private static final int ORDERS_BYTES = 200;
    private static final int MOST_ITEMS = 20;
    private static final int QUERY_BYTES = 60;
    private static final int MOST_STEPS = 8;
    private static final int MOST_DIGITS = 5;
    private static final int CURSORS = 4;

    private static final int END = 0;
    private static final int TAIL = 1;
    private static final int BELOW = 2;

    private static final int FAULT_SIGN = 1;
    private static final int FAULT_DIGITS = 2;
    private static final int FAULT_ZERO = 3;
    private static final int FAULT_MANY = 4;
    private static final int FAULT_KEY = 5;

    private final Tape tape;
    private final Reader reader;
    private final Key told;
    private final State now;
    private final State kept;
    private boolean isKept;
    private final Trie ahead;
    private final Trie aside;
    private final LayerView view;
    private final Orders items;
    private final Query asked;
    private final Found left;

    public PageTrie() {
        tape = new Tape();
        reader = new Reader(tape);
        told = new Key();
        now = new State();
        kept = new State();
        isKept = false;
        ahead = new Trie();
        aside = new Trie();
        view = new LayerView(now.trie);
        items = new Orders();
        asked = new Query();
        left = new Found(now.trie.keys);
    }

    public int feed(int a, int b, int c, int d, int e) {
        if (tape.length > TAPE_BYTES - FEED_BYTES) {
            return NONE;
        }
        tape.addWord(a);
        tape.addWord(b);
        tape.addWord(c);
        tape.addWord(d);
        tape.addWord(e);
        return tape.length;
    }

    public int begin(int width, int room) {
        if (!isWidth(width) || !isRoom(room)) {
            return NONE;
        }
        now.trie.clear(width, room);
        now.forgetCursors();
        tape.clear();
        return 0;
    }

    public int put(int n, int value) {
        if (!isValue(value) || !isKeyTold(n)) {
            return NONE;
        }
        return readTold(n) ? now.trie.insertKey(told, value) : NO_KEY;
    }

    public int take(int n) {
        if (!isKeyTold(n)) {
            return NONE;
        }
        return readTold(n) ? now.trie.removeKey(told) : NO_KEY;
    }

    public int orders(int n) {
        if (!isTextTold(n, 1, ORDERS_BYTES)) {
            return NONE;
        }
        return readItems(n) ? items.doOn(now.trie) : reader.fault;
    }

    public int batch(int n) {
        if (!isTextTold(n, 1, ORDERS_BYTES)) {
            return NONE;
        }
        if (!readItems(n)) {
            return reader.fault;
        }
        ahead.copyFrom(now.trie);
        int done = items.doOn(now.trie);
        if (done == items.size) {
            return done;
        }
        now.trie.copyFrom(ahead);
        return NOT_THERE - done;
    }

    public int count(int what) {
        return what == 15 ? tape.length : now.trie.measure(what);
    }

    public int value(int n) {
        if (!isKeyTold(n)) {
            return NONE;
        }
        if (!readTold(n)) {
            return NO_KEY;
        }
        int at = now.trie.keys.find(told);
        return at < 0 ? NOT_THERE : now.trie.keys.valueOf(at);
    }

    public int rank(int n) {
        if (!isKeyTold(n)) {
            return NONE;
        }
        return readTold(n) ? now.trie.keys.placeOf(told) : NO_KEY;
    }

    public int key(int i, int k) {
        Keys keys = now.trie.keys;
        if (!keys.has(i) || k < -3) {
            return NONE;
        }
        switch (k) {
            case -1:
                return keys.lengthOf(i);
            case -2:
                return keys.valueOf(i);
            case -3:
                return now.trie.away(i);
            default:
                return k < keys.lengthOf(i) ? keys.byteOf(i, k) : NOT_SO_MANY;
        }
    }

    public int near(int n, int what) {
        if (what < 0 || what > 3 || !isKeyTold(n)) {
            return NONE;
        }
        if (!readTold(n)) {
            return NO_KEY;
        }
        Keys keys = now.trie.keys;
        int place = keys.placeOf(told);
        boolean isThere = keys.isAt(place, told);
        boolean isForth = what == 1 || what == 3;
        boolean mayBeIt = what == 0 || what == 1;
        int nearest = mayBeIt && isThere ? place : keys.beside(place, isThere, isForth);
        return keys.has(nearest) ? nearest : NOT_THERE;
    }

    public int begins(int n, int what) {
        if (what < 0 || what > 2 || !isKeyTold(n)) {
            return NONE;
        }
        if (!readTold(n)) {
            return NO_KEY;
        }
        Keys keys = now.trie.keys;
        int first = keys.placeOf(told);
        int behind = keys.endOfBeginning(first, told);
        switch (what) {
            case 0:
                return behind - first;
            case 1:
                return behind > first ? first : NOT_THERE;
            default:
                return keys.valuesTogether(first, behind);
        }
    }

    public int alike(int i, int j) {
        Keys keys = now.trie.keys;
        return keys.has(i) && keys.has(j) ? keys.alikeBytes(i, j) : NONE;
    }

    public int cursor(int c, int n) {
        if (!isCursor(c) || !isKeyTold(n)) {
            return NONE;
        }
        if (!readTold(n)) {
            return NO_KEY;
        }
        now.cursors[c].tell(told);
        return 0;
    }

    public int step(int c, boolean isForth) {
        if (!isCursor(c)) {
            return NONE;
        }
        Cursor cursor = now.cursors[c];
        return cursor.isTold ? cursor.go(now.trie, isForth) : NOT_TOLD;
    }

    public int cursorIs(int c, int what) {
        if (!isCursor(c) || !now.cursors[c].isTold) {
            return NONE;
        }
        Cursor cursor = now.cursors[c];
        switch (what) {
            case 0:
                return now.trie.keys.find(cursor.key);
            case 1:
                return cursor.nearSteps;
            case 2:
                return cursor.farSteps;
            case 3:
                return cursor.lostSteps;
            default:
                break;
        }
        if (what < 10 || what >= 10 + KEY_BYTES) {
            return NONE;
        }
        return what - 10 < cursor.key.length ? cursor.key.byteOf(what - 10) : NOT_SO_MANY;
    }

    public int full(int entries) {
        return entries < 1 || entries > MOST_ROOM ? NONE : now.trie.pagesWith(entries);
    }

    public int closest(int what) {
        if (what < 0 || what > 1) {
            return NONE;
        }
        Keys keys = now.trie.keys;
        if (keys.size < 2) {
            return NO_SUCH_THING;
        }
        int first = keys.closestPair();
        return what == 0 ? keys.alikeBytes(first, first + 1) : first;
    }

    public int layer(int l, int what) {
        if (what < 0 || what > 3 && what < 10 || !view.goTo(l)) {
            return NONE;
        }
        switch (what) {
            case 0:
                return view.beginningBytes();
            case 1:
                return view.entries();
            case 2:
                return view.pages();
            case 3:
                return view.keys();
            default:
                return view.entriesOfPage(what - 10);
        }
    }

    public int entry(int l, int e, int what) {
        if (!isEntryWhat(what) || e < 0 || !view.goTo(l)) {
            return NONE;
        }
        int at = view.entryAt(e);
        if (at < 0) {
            return NONE;
        }
        if (what < 10) {
            return view.entryIs(at, what);
        }
        return what < 20 ? view.partByte(at, what - 10) : view.restByte(at, what - 20);
    }

    public int query(int n) {
        if (!isTextTold(n, 0, QUERY_BYTES)) {
            return NONE;
        }
        reader.open(n);
        asked.readFrom(reader);
        tape.clear();
        if (reader.fault != 0) {
            return reader.fault;
        }
        now.query.copyFrom(asked);
        left.goThrough(now.query);
        return left.size;
    }

    public int found(int what) {
        if (what < 0 || what > 5) {
            return NONE;
        }
        left.goThrough(now.query);
        switch (what) {
            case 0:
                return left.size;
            case 1:
                return left.valuesTogether();
            case 2:
                return left.greatest();
            case 3:
                return left.least();
            case 4:
                return left.bytesTogether();
            default:
                return left.unlikeValues();
        }
    }

    public int foundAt(int i) {
        if (i < 0) {
            return NONE;
        }
        left.goThrough(now.query);
        return i < left.size ? left.numberAt(i) : NOT_SO_MANY;
    }

    public int takeFound() {
        left.goThrough(now.query);
        int all = left.size;
        for (int i = 0; i < all; i++) {
            int at = left.numberAt(i);
            now.trie.removeAt(at);
            left.closeGap(i + 1, at);
        }
        return all;
    }

    public int change(int kind, int v) {
        if (kind < 0 || kind > 2 || !isValue(v)) {
            return NONE;
        }
        left.goThrough(now.query);
        for (int i = 0; i < left.size; i++) {
            int at = left.numberAt(i);
            now.trie.keys.setValue(at, changed(kind, now.trie.keys.valueOf(at), v));
        }
        return left.size;
    }

    public int tried(int width, int room, int what) {
        if (!isWidth(width) || !isRoom(room) || what < 3 || what > 13) {
            return NONE;
        }
        aside.putAllOf(now.trie.keys, width, room);
        return aside.measure(what);
    }

    public int best(int what) {
        if (what < 0 || what > 1) {
            return NONE;
        }
        int bestWidth = 1;
        int leastWeight = NONE;
        for (int width = 1; width <= MOST_WIDTH; width++) {
            aside.putAllOf(now.trie.keys, width, now.trie.room);
            int weight = aside.weight();
            if (leastWeight == NONE || weight < leastWeight) {
                leastWeight = weight;
                bestWidth = width;
            }
        }
        return what == 0 ? bestWidth : leastWeight;
    }

    public int keep() {
        kept.copyFrom(now);
        isKept = true;
        return now.trie.keys.size;
    }

    public boolean undo() {
        if (!isKept) {
            return false;
        }
        now.copyFrom(kept);
        return true;
    }

    public int unlike(int what) {
        if (what < 0 || what > 2) {
            return NONE;
        }
        if (!isKept) {
            return NO_SUCH_THING;
        }
        Keys old = kept.trie.keys;
        Keys present = now.trie.keys;
        switch (what) {
            case 0:
                return present.missingIn(old);
            case 1:
                return old.missingIn(present);
            default:
                return present.otherValuesIn(old);
        }
    }

    public int check(int n) {
        if (!isTextTold(n, 0, KEY_BYTES)) {
            return NO_SUCH_THING;
        }
        Keys keys = now.trie.keys;
        for (int k = 0; k < n; k++) {
            if (k >= keys.lengthOf(0) || keys.byteOf(0, k) != tape.byteAt(k)) {
                tape.clear();
                return k;
            }
        }
        return NONE;
    }

    private static boolean isWidth(int width) {
        return width >= 1 && width <= MOST_WIDTH;
    }

    private static boolean isRoom(int room) {
        return room >= LEAST_ROOM && room <= MOST_ROOM;
    }

    private static boolean isValue(int value) {
        return value >= 0 && value <= MOST_VALUE;
    }

    private static boolean isCursor(int c) {
        return c >= 0 && c < CURSORS;
    }

    private static boolean isEntryWhat(int what) {
        boolean isPartByte = what >= 10 && what < 10 + MOST_WIDTH;
        boolean isRestByte = what >= 20 && what < 20 + KEY_BYTES - 1;
        return what >= 0 && what <= 4 || isPartByte || isRestByte;
    }

    private static int changed(int kind, int old, int v) {
        long comes;
        switch (kind) {
            case 0:
                comes = (long) old + v;
                break;
            case 1:
                comes = (long) old * v;
                break;
            default:
                comes = v;
                break;
        }
        return (int) Math.max(0L, Math.min(comes, MOST_VALUE));
    }

    private boolean isTextTold(int n, int least, int most) {
        return n >= least && n <= most && n <= tape.length;
    }

    private boolean isKeyTold(int n) {
        return isTextTold(n, 1, KEY_BYTES);
    }

    /** Takes the told key from the tape, which is empty then; false: those bytes are no key. */
    private boolean readTold(int n) {
        boolean isKey = true;
        told.clear();
        for (int place = 0; place < n; place++) {
            int sign = tape.byteAt(place);
            isKey = isKey && isKeyByte(sign) && told.add(sign);
        }
        tape.clear();
        return isKey;
    }

    /** Takes the items from the tape, which is empty then; false: there is a fault. */
    private boolean readItems(int n) {
        reader.open(n);
        items.readFrom(reader);
        tape.clear();
        return reader.fault == 0;
    }

    private static boolean isKeyByte(int sign) {
        boolean isMark = sign == ';' || sign == '=' || sign == ',' || sign == '~';
        return sign >= 33 && sign <= 126 && !isMark;
    }

    private static boolean isDigit(int sign) {
        return sign >= '0' && sign <= '9';
    }

    /** The bytes that were fed and not told yet. */
    private static final class Tape {
        private final byte[] bytes;
        int length;

        Tape() {
            bytes = new byte[TAPE_BYTES];
            length = 0;
        }

        void clear() {
            length = 0;
        }

        void addWord(int word) {
            for (int shift = 24; shift >= 0 && length >= 0 && length < bytes.length; shift -= 8) {
                bytes[length] = (byte) (word >> shift);
                length++;
            }
        }

        int byteAt(int place) {
            return place >= 0 && place < length && place < bytes.length ? bytes[place] & 255 : NONE;
        }
    }

    /** The bytes of one key, apart from those that are there. */
    private static final class Key {
        final byte[] bytes;
        int length;

        Key() {
            bytes = new byte[KEY_BYTES];
            length = 0;
        }

        void clear() {
            length = 0;
        }

        boolean add(int sign) {
            if (length < 0 || length >= bytes.length) {
                return false;
            }
            bytes[length] = (byte) sign;
            length++;
            return true;
        }

        int byteOf(int k) {
            return k >= 0 && k < length && k < bytes.length ? bytes[k] : NONE;
        }

        void copyFrom(Key other) {
            System.arraycopy(other.bytes, 0, bytes, 0, KEY_BYTES);
            length = other.length;
        }
    }

    /** Reads a told text from left to right; behind the first fault it reads nothing more. */
    private static final class Reader {
        private final Tape tape;
        private int at;
        private int end;
        int fault;

        Reader(Tape tape) {
            this.tape = tape;
            at = 0;
            end = 0;
            fault = 0;
        }

        void open(int bytes) {
            at = 0;
            end = bytes;
            fault = 0;
        }

        boolean isAtEnd() {
            return at >= end;
        }

        /** The byte that is next; NONE at the end, which no byte is. */
        int sign() {
            return at < end ? tape.byteAt(at) : NONE;
        }

        void blame(int number, int place) {
            if (fault == 0) {
                fault = -1000 * number - place;
            }
        }

        void blameHere(int number) {
            blame(number, at);
        }

        void goOn() {
            at++;
        }

        void readSign(int wanted) {
            if (fault != 0) {
                return;
            }
            if (sign() == wanted) {
                at++;
            } else {
                blameHere(FAULT_SIGN);
            }
        }

        void readKey(Key key) {
            key.clear();
            for (int i = 0; i <= KEY_BYTES && fault == 0 && isKeyByte(sign()); i++) {
                if (key.add(sign())) {
                    at++;
                } else {
                    blameHere(FAULT_KEY);
                }
            }
            if (key.length == 0) {
                blameHere(FAULT_SIGN);
            }
        }

        int readNumber() {
            int number = 0;
            int first = at;
            for (int i = 0; i <= MOST_DIGITS && fault == 0 && isDigit(sign()); i++) {
                if (i < MOST_DIGITS) {
                    number = number * 10 + sign() - '0';
                    at++;
                } else {
                    blameHere(FAULT_DIGITS);
                }
            }
            if (at == first) {
                blameHere(FAULT_SIGN);
            }
            return number;
        }

        /** The zero of a step is asked for as soon as its digits end, so a sixth digit comes ahead of it. */
        int readNumberAboveZero() {
            int first = at;
            int number = readNumber();
            if (number == 0) {
                blame(FAULT_ZERO, first);
            }
            return number;
        }

        /** Goes behind a ; and tells whether there was one; what is neither that nor the end is a fault. */
        boolean readBreak() {
            if (fault != 0 || isAtEnd()) {
                return false;
            }
            readSign(';');
            return fault == 0;
        }
    }

    /** A told text of items, to be done one by one. */
    private static final class Orders {
        private final int[] kinds;
        private final int[] numbers;
        private final Key[] firsts;
        private final Key[] lasts;
        int size;

        Orders() {
            kinds = new int[MOST_ITEMS];
            numbers = new int[MOST_ITEMS];
            firsts = new Key[MOST_ITEMS];
            lasts = new Key[MOST_ITEMS];
            for (int i = 0; i < MOST_ITEMS; i++) {
                firsts[i] = new Key();
                lasts[i] = new Key();
            }
            size = 0;
        }

        void readFrom(Reader reader) {
            size = 0;
            boolean goesOn = true;
            for (int i = 0; i < MOST_ITEMS && goesOn; i++) {
                readItem(reader, i);
                size = i + 1;
                goesOn = reader.readBreak();
            }
            if (goesOn) {
                reader.blameHere(FAULT_MANY);
            }
        }

        private void readItem(Reader reader, int i) {
            int kind = reader.sign();
            if (kind != '+' && kind != '-' && kind != '~') {
                reader.blameHere(FAULT_SIGN);
                return;
            }
            reader.goOn();
            kinds[i] = kind;
            reader.readKey(firsts[i]);
            if (kind == '+') {
                reader.readSign('=');
                numbers[i] = reader.readNumber();
            } else if (kind == '~') {
                reader.readSign(',');
                reader.readKey(lasts[i]);
            }
        }

        /** How many were done till one was refused. */
        int doOn(Trie trie) {
            for (int i = 0; i < size && i < MOST_ITEMS; i++) {
                boolean isDone;
                if (kinds[i] == '+') {
                    isDone = trie.insertKey(firsts[i], numbers[i]) != NO_ROOM_LEFT;
                } else if (kinds[i] == '-') {
                    isDone = trie.removeKey(firsts[i]) != NOT_THERE;
                } else {
                    isDone = trie.removeFromTo(firsts[i], lasts[i]) > 0;
                }
                if (!isDone) {
                    return i;
                }
            }
            return size;
        }
    }

    /** The steps of a query. */
    private static final class Query {
        private final int[] kinds;
        private final int[] numbers;
        private final Key[] beginnings;
        int size;

        Query() {
            kinds = new int[MOST_STEPS];
            numbers = new int[MOST_STEPS];
            beginnings = new Key[MOST_STEPS];
            for (int i = 0; i < MOST_STEPS; i++) {
                beginnings[i] = new Key();
            }
            size = 0;
        }

        void copyFrom(Query other) {
            System.arraycopy(other.kinds, 0, kinds, 0, MOST_STEPS);
            System.arraycopy(other.numbers, 0, numbers, 0, MOST_STEPS);
            for (int i = 0; i < MOST_STEPS; i++) {
                beginnings[i].copyFrom(other.beginnings[i]);
            }
            size = other.size;
        }

        void readFrom(Reader reader) {
            size = 0;
            boolean goesOn = !reader.isAtEnd();
            for (int i = 0; i < MOST_STEPS && goesOn; i++) {
                readStep(reader, i);
                size = i + 1;
                goesOn = reader.readBreak();
            }
            if (goesOn) {
                reader.blameHere(FAULT_MANY);
            }
        }

        private void readStep(Reader reader, int i) {
            int kind = reader.sign();
            kinds[i] = kind;
            switch (kind) {
                case 'e':
                case 'o':
                case 'r':
                    reader.goOn();
                    break;
                case 'p':
                    reader.goOn();
                    reader.readKey(beginnings[i]);
                    break;
                case 'k':
                    reader.goOn();
                    numbers[i] = reader.readNumberAboveZero();
                    break;
                case '>':
                case '<':
                case 'l':
                case 'd':
                case 't':
                    reader.goOn();
                    numbers[i] = reader.readNumber();
                    break;
                default:
                    reader.blameHere(FAULT_SIGN);
                    break;
            }
        }

        boolean turnsRound(int step) {
            return step >= 0 && step < size && step < MOST_STEPS && kinds[step] == 'r';
        }

        /** Whether a step leaves a key that is the so-manieth (0 on) of those that come to the step. */
        boolean leaves(int step, Keys keys, int at, int place) {
            if (step < 0 || step >= size || step >= MOST_STEPS) {
                return true;
            }
            int number = numbers[step];
            switch (kinds[step]) {
                case 'p':
                    return keys.beginsWith(at, beginnings[step]);
                case '>':
                    return keys.valueOf(at) > number;
                case '<':
                    return keys.valueOf(at) < number;
                case 'l':
                    return keys.lengthOf(at) >= number;
                case 'e':
                    return (keys.valueOf(at) & 1) == 0;
                case 'o':
                    return (keys.valueOf(at) & 1) == 1;
                case 'k':
                    return number > 0 && place % number == 0;
                case 'd':
                    return place >= number;
                case 't':
                    return place < number;
                default:
                    return true;
            }
        }
    }

    /** What a query leaves of all keys: their numbers, in the order in which it leaves them. */
    private static final class Found {
        private final Keys keys;
        private final int[] row;
        int size;

        Found(Keys keys) {
            this.keys = keys;
            row = new int[MOST_KEYS];
            size = 0;
        }

        void goThrough(Query query) {
            size = keys.size;
            for (int i = 0; i < size && i < MOST_KEYS; i++) {
                row[i] = i;
            }
            for (int step = 0; step < query.size; step++) {
                if (query.turnsRound(step)) {
                    turnRound();
                } else {
                    sift(query, step);
                }
            }
        }

        private void turnRound() {
            for (int i = 0; i < size / 2; i++) {
                int other = row[size - 1 - i];
                row[size - 1 - i] = row[i];
                row[i] = other;
            }
        }

        private void sift(Query query, int step) {
            int stay = 0;
            for (int i = 0; i < size; i++) {
                if (query.leaves(step, keys, row[i], i)) {
                    row[stay] = row[i];
                    stay++;
                }
            }
            size = stay;
        }

        int numberAt(int i) {
            return i >= 0 && i < size && i < MOST_KEYS ? row[i] : NONE;
        }

        /** Numbers from a place of the row on go down by one where the key of that number has gone. */
        void closeGap(int from, int gone) {
            for (int i = from; i < size; i++) {
                if (row[i] > gone) {
                    row[i]--;
                }
            }
        }

        int valuesTogether() {
            int sum = 0;
            for (int i = 0; i < size; i++) {
                sum += keys.valueOf(row[i]);
            }
            return sum;
        }

        int bytesTogether() {
            int sum = 0;
            for (int i = 0; i < size; i++) {
                sum += keys.lengthOf(row[i]);
            }
            return sum;
        }

        int greatest() {
            int most = NO_SUCH_THING;
            for (int i = 0; i < size; i++) {
                most = Math.max(most, keys.valueOf(row[i]));
            }
            return most;
        }

        int least() {
            int least = MOST_VALUE;
            for (int i = 0; i < size; i++) {
                least = Math.min(least, keys.valueOf(row[i]));
            }
            return size == 0 ? NO_SUCH_THING : least;
        }

        int unlikeValues() {
            int unlike = 0;
            for (int i = 0; i < size; i++) {
                if (!isValueAheadOf(i)) {
                    unlike++;
                }
            }
            return unlike;
        }

        private boolean isValueAheadOf(int place) {
            int value = keys.valueOf(row[place]);
            for (int i = 0; i < place; i++) {
                if (keys.valueOf(row[i]) == value) {
                    return true;
                }
            }
            return false;
        }
    }

    /** The keys that are there with their values, in order. */
    private static final class Keys {
        private final byte[] bytes;
        private final int[] lengths;
        private final int[] values;
        int size;

        Keys() {
            bytes = new byte[MOST_KEYS * KEY_BYTES];
            lengths = new int[MOST_KEYS];
            values = new int[MOST_KEYS];
            size = 0;
        }

        void copyFrom(Keys other) {
            System.arraycopy(other.bytes, 0, bytes, 0, MOST_KEYS * KEY_BYTES);
            System.arraycopy(other.lengths, 0, lengths, 0, MOST_KEYS);
            System.arraycopy(other.values, 0, values, 0, MOST_KEYS);
            size = other.size;
        }

        boolean has(int i) {
            return i >= 0 && i < size && i < MOST_KEYS;
        }

        int lengthOf(int i) {
            return i >= 0 && i < size && i < MOST_KEYS ? lengths[i] : 0;
        }

        int valueOf(int i) {
            return i >= 0 && i < size && i < MOST_KEYS ? values[i] : 0;
        }

        void setValue(int i, int value) {
            if (has(i)) {
                values[i] = value;
            }
        }

        int byteOf(int i, int k) {
            boolean isIn = i >= 0 && i < size && i < MOST_KEYS && k >= 0 && k < KEY_BYTES;
            return isIn ? bytes[i * KEY_BYTES + k] : 0;
        }

        void insertAt(int at, Key key, int value) {
            if (at < 0 || at > size || size >= MOST_KEYS) {
                return;
            }
            int moved = size - at;
            System.arraycopy(bytes, at * KEY_BYTES, bytes, (at + 1) * KEY_BYTES, moved * KEY_BYTES);
            System.arraycopy(lengths, at, lengths, at + 1, moved);
            System.arraycopy(values, at, values, at + 1, moved);
            System.arraycopy(key.bytes, 0, bytes, at * KEY_BYTES, KEY_BYTES);
            lengths[at] = key.length;
            values[at] = value;
            size++;
        }

        void append(Keys other, int i) {
            if (!other.has(i) || size < 0 || size >= MOST_KEYS) {
                return;
            }
            System.arraycopy(other.bytes, i * KEY_BYTES, bytes, size * KEY_BYTES, KEY_BYTES);
            lengths[size] = other.lengths[i];
            values[size] = other.values[i];
            size++;
        }

        void removeAt(int at) {
            if (!has(at)) {
                return;
            }
            int moved = size - at - 1;
            System.arraycopy(bytes, (at + 1) * KEY_BYTES, bytes, at * KEY_BYTES, moved * KEY_BYTES);
            System.arraycopy(lengths, at + 1, lengths, at, moved);
            System.arraycopy(values, at + 1, values, at, moved);
            size--;
        }

        void copyTo(int i, Key key) {
            if (has(i)) {
                System.arraycopy(bytes, i * KEY_BYTES, key.bytes, 0, KEY_BYTES);
                key.length = lengths[i];
            }
        }

        /** Below 0: key i is ahead of the key, above 0: behind it, 0: it is that. */
        private int compare(int i, Key key) {
            int common = Math.min(lengthOf(i), key.length);
            for (int k = 0; k < common; k++) {
                int less = byteOf(i, k) - key.byteOf(k);
                if (less != 0) {
                    return less;
                }
            }
            return lengthOf(i) - key.length;
        }

        /** Likewise, of key i and key j of others. */
        private int compareTo(int i, Keys others, int j) {
            int common = Math.min(lengthOf(i), others.lengthOf(j));
            for (int k = 0; k < common; k++) {
                int less = byteOf(i, k) - others.byteOf(j, k);
                if (less != 0) {
                    return less;
                }
            }
            return lengthOf(i) - others.lengthOf(j);
        }

        /** How many keys are ahead of the key. */
        int placeOf(Key key) {
            int low = 0;
            int high = size;
            for (int turn = 0; turn <= MOST_KEYS && low < high; turn++) {
                int middle = (low + high) >> 1;
                if (compare(middle, key) < 0) {
                    low = middle + 1;
                } else {
                    high = middle;
                }
            }
            return low;
        }

        boolean isAt(int i, Key key) {
            return has(i) && compare(i, key) == 0;
        }

        int find(Key key) {
            int place = placeOf(key);
            return isAt(place, key) ? place : NOT_THERE;
        }

        /** The number of the next key of a place, where a key is or only would be; it may be out of the row. */
        int beside(int place, boolean isThere, boolean isForth) {
            if (!isForth) {
                return place - 1;
            }
            return isThere ? place + 1 : place;
        }

        boolean beginsWith(int i, Key beginning) {
            if (lengthOf(i) < beginning.length) {
                return false;
            }
            for (int k = 0; k < beginning.length; k++) {
                if (byteOf(i, k) != beginning.byteOf(k)) {
                    return false;
                }
            }
            return true;
        }

        int endOfBeginning(int first, Key beginning) {
            int end = first;
            while (end < size && beginsWith(end, beginning)) {
                end++;
            }
            return end;
        }

        int valuesTogether(int from, int end) {
            int sum = 0;
            for (int i = from; i < end; i++) {
                sum += valueOf(i);
            }
            return sum;
        }

        int alikeBytes(int i, int j) {
            int common = Math.min(lengthOf(i), lengthOf(j));
            int alike = 0;
            while (alike < common && byteOf(i, alike) == byteOf(j, alike)) {
                alike++;
            }
            return alike;
        }

        /** The first one of the first two keys beside one another that have the most bytes alike. */
        int closestPair() {
            int first = 0;
            int most = NONE;
            for (int i = 0; i + 1 < size; i++) {
                int alike = alikeBytes(i, i + 1);
                if (alike > most) {
                    most = alike;
                    first = i;
                }
            }
            return first;
        }

        int missingIn(Keys others) {
            return size - inBoth(others, false);
        }

        int otherValuesIn(Keys others) {
            return inBoth(others, true);
        }

        /** How many keys are in both rows; if so told, only those with other values. */
        private int inBoth(Keys others, boolean isOtherValue) {
            int both = 0;
            int j = 0;
            for (int i = 0; i < size; i++) {
                while (j < others.size && others.compareTo(j, this, i) < 0) {
                    j++;
                }
                boolean isIn = j < others.size && others.compareTo(j, this, i) == 0;
                if (isIn && !(isOtherValue && others.valueOf(j) == valueOf(i))) {
                    both++;
                }
            }
            return both;
        }
    }

    /**
     * Layers, entries and pages over the keys.
     *
     * <p>A layer's depth is how many parts its beginning has. All layers that hold keys i - 1 and i are those of
     * depth 0 to shared[i]; in the deepest of them the two have entries of their own, above it the same one. So a
     * layer of depth d is a longest run of keys with shared of d or more between them, if it is two keys or more
     * or the top, and an entry begins in it where shared is just d. A key's end or tail lies in the deepest
     * layer that holds it and another key.
     */
    private static final class Trie {
        final Keys keys;
        int width;
        int room;
        private final int[] shared;
        private final boolean[] opens;
        private int parted;
        private int joined;
        private int made;
        private int folded;

        Trie() {
            keys = new Keys();
            shared = new int[MOST_KEYS];
            opens = new boolean[MOST_KEYS];
            width = FIRST_WIDTH;
            room = FIRST_ROOM;
            parted = 0;
            joined = 0;
            made = 0;
            folded = 0;
        }

        void clear(int newWidth, int newRoom) {
            keys.size = 0;
            width = newWidth;
            room = newRoom;
            parted = 0;
            joined = 0;
            made = 0;
            folded = 0;
        }

        void copyFrom(Trie other) {
            keys.copyFrom(other.keys);
            System.arraycopy(other.shared, 0, shared, 0, MOST_KEYS);
            System.arraycopy(other.opens, 0, opens, 0, MOST_KEYS);
            width = other.width;
            room = other.room;
            parted = other.parted;
            joined = other.joined;
            made = other.made;
            folded = other.folded;
        }

        void putAllOf(Keys others, int newWidth, int newRoom) {
            clear(newWidth, newRoom);
            for (int i = 0; i < others.size && i < MOST_KEYS; i++) {
                keys.append(others, i);
                settle(i);
            }
        }

        /** The value that the key had, NOT_THERE if it is new, NO_ROOM_LEFT if it can't come. */
        int insertKey(Key key, int value) {
            int place = keys.placeOf(key);
            if (keys.isAt(place, key)) {
                int old = keys.valueOf(place);
                keys.setValue(place, value);
                return old;
            }
            if (keys.size >= MOST_KEYS) {
                return NO_ROOM_LEFT;
            }
            int moved = keys.size - place;
            System.arraycopy(shared, place, shared, place + 1, moved);
            System.arraycopy(opens, place, opens, place + 1, moved);
            keys.insertAt(place, key, value);
            settle(place);
            return NOT_THERE;
        }

        int removeKey(Key key) {
            int at = keys.find(key);
            if (at < 0) {
                return NOT_THERE;
            }
            int value = keys.valueOf(at);
            removeAt(at);
            return value;
        }

        /** How many keys went. */
        int removeFromTo(Key first, Key last) {
            int from = keys.placeOf(first);
            int end = keys.placeOf(last);
            if (keys.isAt(end, last)) {
                end++;
            }
            for (int i = from; i < end; i++) {
                removeAt(from);
            }
            return Math.max(0, end - from);
        }

        int sharedAt(int i) {
            return i >= 0 && i < keys.size && i < MOST_KEYS ? shared[i] : 0;
        }

        boolean opensAt(int i) {
            return i >= 0 && i < keys.size && i < MOST_KEYS && opens[i];
        }

        private void setOpens(int i, boolean isOpening) {
            if (keys.has(i)) {
                opens[i] = isOpening;
            }
        }

        /** The depth of the layer in which the end or tail of key i lies. */
        int depthOf(int i) {
            return Math.max(sharedAt(i), sharedAt(i + 1));
        }

        /** The depth of the deepest layer that holds keys i - 1 and i; one that ends there is in none behind it. */
        private int meetingOf(int i) {
            int inside = Math.min(keys.alikeBytes(i - 1, i), keys.lengthOf(i - 1) - 1);
            return width < 1 ? 0 : inside / width;
        }

        /**
         * The key at that number is new in the row. The mark between the keys beside it stays with the one of
         * the two new breaks that is as deep; a new entry comes into the page of the one ahead of it.
         */
        private void settle(int at) {
            boolean isFirst = at <= 0;
            boolean isLast = at + 1 >= keys.size;
            boolean oldOpens = !isFirst && opensAt(at + 1);
            int withAhead = isFirst ? 0 : meetingOf(at);
            int withBehind = isLast ? 0 : meetingOf(at + 1);
            boolean isWithBehind = withBehind > withAhead;
            if (keys.has(at)) {
                shared[at] = withAhead;
                opens[at] = isFirst || isWithBehind && oldOpens;
            }
            if (keys.has(at + 1)) {
                shared[at + 1] = withBehind;
                opens[at + 1] = !isWithBehind && oldOpens;
            }
            int depth = depthOf(at);
            int besideIt = isWithBehind ? sharedAt(at + 2) : sharedAt(at - 1);
            int depthBefore = Math.max(besideIt, Math.min(withAhead, withBehind));
            if (depth > depthBefore) {
                made += depth - depthBefore;
            } else {
                partIfTooFull(pageStart(at, depth), depth);
            }
        }

        private void partIfTooFull(int start, int depth) {
            int entries = entriesFrom(start, depth);
            if (entries > room) {
                setOpens(entryFrom(start, depth, entries / 2), true);
                parted++;
            }
        }

        void removeAt(int at) {
            if (!keys.has(at)) {
                return;
            }
            int depth = depthOf(at);
            int withAhead = sharedAt(at);
            int withBehind = sharedAt(at + 1);
            boolean isPageStart = isPageStart(at, depth);
            boolean isAlone = isPageStart && isPageEnd(at, depth);
            closeBreaks(at);
            int moved = keys.size - at - 1;
            System.arraycopy(shared, at + 1, shared, at, moved);
            System.arraycopy(opens, at + 1, opens, at, moved);
            keys.removeAt(at);
            if (!isAlone) {
                joinIfEmptied(pageStart(isPageStart ? at : at - 1, depth), depth);
            }
            foldOver(at > 0 && withAhead >= withBehind ? at - 1 : at, depth);
        }

        /** Of the breaks on both sides of a key that goes one is left, behind it: the one that is less deep. */
        private void closeBreaks(int at) {
            if (!keys.has(at) || !keys.has(at + 1)) {
                return;
            }
            if (shared[at] == shared[at + 1]) {
                opens[at + 1] = opens[at] || opens[at + 1];
            } else if (shared[at] < shared[at + 1]) {
                shared[at + 1] = shared[at];
                opens[at + 1] = opens[at];
            }
        }

        private void joinIfEmptied(int start, int depth) {
            int half = room / 2;
            int entries = entriesFrom(start, depth);
            int behind = pageBehind(start, depth);
            if (behind >= 0 && entries + entriesFrom(behind, depth) <= half) {
                setOpens(behind, false);
                joined++;
            } else if (start > 0 && sharedAt(start) == depth) {
                int pageAhead = pageStart(start - 1, depth);
                if (entriesFrom(pageAhead, depth) + entries <= half) {
                    setOpens(start, false);
                    joined++;
                }
            }
        }

        /** A key that is left alone in the layer of that depth has gone up, through layers that are no more. */
        private void foldOver(int left, int depth) {
            if (keys.has(left)) {
                folded += Math.max(0, depth - depthOf(left));
            }
        }

        /** Whether the entry of key i begins a page in its layer of that depth. */
        private boolean isPageStart(int i, int depth) {
            if (i <= 0 || i >= keys.size || i >= MOST_KEYS) {
                return true;
            }
            return shared[i] < depth || shared[i] == depth && opens[i];
        }

        /** Whether the entry of key i, its last one there, ends a page in its layer of that depth. */
        private boolean isPageEnd(int i, int depth) {
            return isPageStart(i + 1, depth);
        }

        /** The first key of the page in which the entry of key i lies, in its layer of that depth. */
        int pageStart(int i, int depth) {
            int start = i;
            while (start > 0 && !isPageStart(start, depth)) {
                start--;
            }
            return start;
        }

        /** The first key of the page behind the one that begins at key start; NONE: it is the layer's last. */
        int pageBehind(int start, int depth) {
            for (int i = start + 1; i < keys.size && sharedAt(i) >= depth; i++) {
                if (sharedAt(i) == depth && opensAt(i)) {
                    return i;
                }
            }
            return NONE;
        }

        int entriesFrom(int start, int depth) {
            int entries = 1;
            for (int i = start + 1; i < keys.size && !isPageStart(i, depth); i++) {
                if (sharedAt(i) == depth) {
                    entries++;
                }
            }
            return entries;
        }

        /** The first key of an entry of the page that begins at key start; NONE: it has not so many. */
        private int entryFrom(int start, int depth, int number) {
            int entries = 0;
            for (int i = start + 1; i < keys.size && !isPageStart(i, depth); i++) {
                if (sharedAt(i) == depth) {
                    entries++;
                    if (entries == number) {
                        return i;
                    }
                }
            }
            return NONE;
        }

        /** The number behind the last key of a layer. */
        int layerEnd(int start, int depth) {
            int end = start + 1;
            while (end < keys.size && sharedAt(end) >= depth) {
                end++;
            }
            return Math.min(end, keys.size);
        }

        boolean isEnd(int i) {
            return keys.lengthOf(i) <= (depthOf(i) + 1) * width;
        }

        /** Whether the ends or tails of keys i - 1 and i lie in the same page. */
        boolean isPageCommon(int i) {
            int depth = sharedAt(i);
            return depthOf(i - 1) == depth && depthOf(i) == depth && !opensAt(i);
        }

        int away(int i) {
            int deepest = depthOf(i);
            int pages = deepest + 1;
            for (int j = i; j > 0; j--) {
                if (sharedAt(j) <= deepest) {
                    deepest = sharedAt(j);
                    pages += opensAt(j) ? 1 : 0;
                }
            }
            return pages;
        }

        /** How many pages have so many entries: at each key begin the first ones of its new layers, or one more. */
        int pagesWith(int entries) {
            int pages = 0;
            for (int i = 0; i < keys.size; i++) {
                int highest = opensAt(i) ? sharedAt(i) : sharedAt(i) + 1;
                for (int depth = highest; depth <= depthOf(i); depth++) {
                    if (entriesFrom(i, depth) == entries) {
                        pages++;
                    }
                }
            }
            return pages;
        }

        int measure(int what) {
            switch (what) {
                case 0:
                    return keys.size;
                case 1:
                    return width;
                case 2:
                    return room;
                case 3:
                    return layers();
                case 4:
                    return pages();
                case 5:
                    return ends();
                case 6:
                    return keys.size - ends();
                case 7:
                    return layers() - 1;
                case 8:
                    return deepest() + 1;
                case 9:
                    return parted;
                case 10:
                    return joined;
                case 11:
                    return made;
                case 12:
                    return folded;
                case 13:
                    return weight();
                case 14:
                    return keys.valuesTogether(0, keys.size);
                default:
                    return NONE;
            }
        }

        private int layers() {
            int layers = 1;
            for (int i = 0; i < keys.size; i++) {
                layers += depthOf(i) - sharedAt(i);
            }
            return layers;
        }

        private int pages() {
            int pages = 0;
            for (int i = 0; i < keys.size; i++) {
                pages += depthOf(i) - sharedAt(i) + (opensAt(i) ? 1 : 0);
            }
            return pages;
        }

        private int ends() {
            int ends = 0;
            for (int i = 0; i < keys.size; i++) {
                ends += isEnd(i) ? 1 : 0;
            }
            return ends;
        }

        private int deepest() {
            int deepest = 0;
            for (int i = 0; i < keys.size; i++) {
                deepest = Math.max(deepest, sharedAt(i));
            }
            return deepest;
        }

        int weight() {
            int belows = layers() - 1;
            int bytes = belows * width;
            for (int i = 0; i < keys.size; i++) {
                bytes += keys.lengthOf(i) - depthOf(i) * width;
            }
            return bytes + 2 * (keys.size + belows) + 4 * pages() + 8 * (belows + 1);
        }
    }

    /** One layer of the trie, found by its number. */
    private static final class LayerView {
        private final Trie trie;
        private int start;
        private int depth;
        private int end;

        LayerView(Trie trie) {
            this.trie = trie;
            start = 0;
            depth = 0;
            end = 0;
        }

        /** At each key begin as many layers as it goes deeper with the key behind it, the highest ahead. */
        boolean goTo(int number) {
            boolean isThere = number == 0;
            int left = number;
            start = 0;
            depth = 0;
            for (int i = 0; i < trie.keys.size && left > 0; i++) {
                int begun = trie.depthOf(i) - trie.sharedAt(i);
                if (left <= begun) {
                    start = i;
                    depth = trie.sharedAt(i) + left;
                    isThere = true;
                }
                left -= begun;
            }
            end = trie.layerEnd(start, depth);
            return isThere;
        }

        int beginningBytes() {
            return depth * trie.width;
        }

        int keys() {
            return end - start;
        }

        int entries() {
            int entries = 0;
            for (int i = start; i < end; i++) {
                entries += isEntryStart(i) ? 1 : 0;
            }
            return entries;
        }

        private boolean isEntryStart(int i) {
            return i == start || trie.sharedAt(i) == depth;
        }

        private boolean isPageStart(int i) {
            return i == start || trie.sharedAt(i) == depth && trie.opensAt(i);
        }

        int pages() {
            return end > start ? pageOf(end - 1) + 1 : 0;
        }

        /** The number of the page in which the entry of a key lies. */
        int pageOf(int at) {
            int page = NONE;
            for (int i = start; i <= at; i++) {
                page += isPageStart(i) ? 1 : 0;
            }
            return page;
        }

        int entriesOfPage(int page) {
            int left = page;
            for (int i = start; i < end; i++) {
                if (isPageStart(i)) {
                    if (left == 0) {
                        return trie.entriesFrom(i, depth);
                    }
                    left--;
                }
            }
            return NOT_SO_MANY;
        }

        /** The first key of an entry; NONE: there are not so many. */
        int entryAt(int number) {
            int left = number;
            for (int i = start; i < end; i++) {
                if (isEntryStart(i)) {
                    if (left == 0) {
                        return i;
                    }
                    left--;
                }
            }
            return NONE;
        }

        int entryIs(int at, int what) {
            int kind = kindOf(at);
            switch (what) {
                case 0:
                    return kind;
                case 1:
                    return partBytes(at);
                case 2:
                    return kind == BELOW ? NO_SUCH_THING : trie.keys.valueOf(at);
                case 3:
                    return restBytes(at);
                default:
                    return pageOf(at);
            }
        }

        private int kindOf(int at) {
            if (trie.depthOf(at) > depth) {
                return BELOW;
            }
            return trie.isEnd(at) ? END : TAIL;
        }

        private int partBytes(int at) {
            return Math.min(trie.width, trie.keys.lengthOf(at) - beginningBytes());
        }

        private int restBytes(int at) {
            return kindOf(at) == TAIL ? trie.keys.lengthOf(at) - beginningBytes() - trie.width : 0;
        }

        int partByte(int at, int k) {
            return k < partBytes(at) ? trie.keys.byteOf(at, beginningBytes() + k) : NOT_SO_MANY;
        }

        int restByte(int at, int k) {
            return k < restBytes(at) ? trie.keys.byteOf(at, beginningBytes() + trie.width + k) : NOT_SO_MANY;
        }
    }

    /** A cursor: a key, there or not, and how its steps went. */
    private static final class Cursor {
        final Key key;
        boolean isTold;
        int nearSteps;
        int farSteps;
        int lostSteps;

        Cursor() {
            key = new Key();
            isTold = false;
            nearSteps = 0;
            farSteps = 0;
            lostSteps = 0;
        }

        void copyFrom(Cursor other) {
            key.copyFrom(other.key);
            isTold = other.isTold;
            nearSteps = other.nearSteps;
            farSteps = other.farSteps;
            lostSteps = other.lostSteps;
        }

        void tell(Key place) {
            key.copyFrom(place);
            isTold = true;
            nearSteps = 0;
            farSteps = 0;
            lostSteps = 0;
        }

        /** The number of the key at which it is then; NOT_THERE: it stays. */
        int go(Trie trie, boolean isForth) {
            int place = trie.keys.placeOf(key);
            boolean isThere = trie.keys.isAt(place, key);
            int next = trie.keys.beside(place, isThere, isForth);
            if (!trie.keys.has(next)) {
                return NOT_THERE;
            }
            if (!isThere) {
                lostSteps++;
            } else if (trie.isPageCommon(Math.max(place, next))) {
                nearSteps++;
            } else {
                farSteps++;
            }
            trie.keys.copyTo(next, key);
            return next;
        }
    }

    /** All that is kept and undone. */
    private static final class State {
        final Trie trie;
        final Cursor[] cursors;
        final Query query;

        State() {
            trie = new Trie();
            cursors = new Cursor[CURSORS];
            for (int i = 0; i < CURSORS; i++) {
                cursors[i] = new Cursor();
            }
            query = new Query();
        }

        void copyFrom(State other) {
            trie.copyFrom(other.trie);
            for (int i = 0; i < CURSORS; i++) {
                cursors[i].copyFrom(other.cursors[i]);
            }
            query.copyFrom(other.query);
        }

        void forgetCursors() {
            for (int i = 0; i < CURSORS; i++) {
                cursors[i].isTold = false;
            }
        }
    }
}
