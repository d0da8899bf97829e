import java.util.ArrayList;
import java.util.Collections;
import java.util.HashSet;
import java.util.List;
import java.util.Map;
import java.util.Set;
import java.util.TreeMap;
import java.util.TreeSet;

/** The document, word by word, with layers, pages and entries as objects: what the class is held against. */
final class Model {
    static final int END = 0;
    static final int TAIL = 1;
    static final int BELOW = 2;

    static final class Entry {
        int kind;
        String part;
        String rest = "";
        Layer below;

        Entry copy() {
            Entry copy = new Entry();
            copy.kind = kind;
            copy.part = part;
            copy.rest = rest;
            copy.below = below == null ? null : below.copy();
            return copy;
        }

        boolean isBehind(Entry other) {
            int order = part.compareTo(other.part);
            return order > 0 || order == 0 && kind != END && other.kind == END;
        }

        int bytes() {
            return part.length() + rest.length();
        }
    }

    static final class Layer {
        String beginning;
        List<List<Entry>> pages = new ArrayList<>();

        Layer(String beginning) {
            this.beginning = beginning;
        }

        Layer copy() {
            Layer copy = new Layer(beginning);
            for (List<Entry> page : pages) {
                List<Entry> copied = new ArrayList<>();
                for (Entry entry : page) {
                    copied.add(entry.copy());
                }
                copy.pages.add(copied);
            }
            return copy;
        }

        List<Entry> entries() {
            List<Entry> all = new ArrayList<>();
            for (List<Entry> page : pages) {
                all.addAll(page);
            }
            return all;
        }
    }

    static final class Cursor {
        String key;
        int near;
        int far;
        int lost;

        Cursor copy() {
            Cursor copy = new Cursor();
            copy.key = key;
            copy.near = near;
            copy.far = far;
            copy.lost = lost;
            return copy;
        }
    }

    static final class Step {
        char kind;
        int number;
        String key = "";
    }

    static final class Fault extends Exception {
        private static final long serialVersionUID = 1L;
        final int code;

        Fault(int number, int place) {
            code = -1000 * number - place;
        }
    }

    String tape = "";
    TreeMap<String, Integer> values = new TreeMap<>();
    int width = 4;
    int room = 4;
    Layer top = new Layer("");
    int parted;
    int joined;
    int made;
    int folded;
    Cursor[] cursors = new Cursor[4];
    List<Step> steps = new ArrayList<>();
    Model kept;

    // ---- the trie

    private Model copyOfAll() {
        Model copy = new Model();
        copy.takeOver(this);
        return copy;
    }

    private void takeOver(Model other) {
        values = new TreeMap<>(other.values);
        width = other.width;
        room = other.room;
        top = other.top.copy();
        parted = other.parted;
        joined = other.joined;
        made = other.made;
        folded = other.folded;
        for (int c = 0; c < 4; c++) {
            cursors[c] = other.cursors[c] == null ? null : other.cursors[c].copy();
        }
        steps = new ArrayList<>(other.steps);
    }

    private String partOf(Layer layer, String key) {
        int from = layer.beginning.length();
        return key.substring(from, Math.min(key.length(), from + width));
    }

    private Entry wayOn(Layer layer, String part) {
        for (Entry entry : layer.entries()) {
            if (entry.kind != END && entry.part.equals(part)) {
                return entry;
            }
        }
        return null;
    }

    private void come(Layer layer, Entry entry) {
        if (layer.pages.isEmpty()) {
            layer.pages.add(new ArrayList<>(List.of(entry)));
            return;
        }
        int number = 0;
        for (int p = 0; p < layer.pages.size(); p++) {
            if (!layer.pages.get(p).get(0).isBehind(entry)) {
                number = p;
            }
        }
        List<Entry> page = layer.pages.get(number);
        int at = 0;
        while (at < page.size() && entry.isBehind(page.get(at))) {
            at++;
        }
        page.add(at, entry);
        if (page.size() > room) {
            int stay = page.size() / 2;
            List<Entry> others = new ArrayList<>(page.subList(stay, page.size()));
            page.subList(stay, page.size()).clear();
            layer.pages.add(number + 1, others);
            parted++;
        }
    }

    private void insert(Layer layer, String key) {
        String part = partOf(layer, key);
        String rest = key.substring(layer.beginning.length() + part.length());
        Entry way = wayOn(layer, part);
        if (rest.isEmpty() || way == null) {
            Entry entry = new Entry();
            entry.kind = rest.isEmpty() ? END : TAIL;
            entry.part = part;
            entry.rest = rest;
            come(layer, entry);
        } else if (way.kind == BELOW) {
            insert(way.below, key);
        } else {
            Layer below = new Layer(layer.beginning + part);
            String old = below.beginning + way.rest;
            way.kind = BELOW;
            way.rest = "";
            way.below = below;
            made++;
            insert(below, old);
            insert(below, key);
        }
    }

    Integer putKey(String key, int value) {
        if (values.containsKey(key)) {
            return values.put(key, value);
        }
        if (values.size() == 150) {
            return -4;
        }
        values.put(key, value);
        insert(top, key);
        return -3;
    }

    private void leave(Layer layer, Entry entry) {
        for (int p = 0; p < layer.pages.size(); p++) {
            List<Entry> page = layer.pages.get(p);
            if (!page.contains(entry)) {
                continue;
            }
            page.remove(entry);
            if (page.isEmpty()) {
                layer.pages.remove(p);
            } else if (p + 1 < layer.pages.size() && page.size() + layer.pages.get(p + 1).size() <= room / 2) {
                page.addAll(layer.pages.remove(p + 1));
                joined++;
            } else if (p > 0 && page.size() + layer.pages.get(p - 1).size() <= room / 2) {
                layer.pages.get(p - 1).addAll(layer.pages.remove(p));
                joined++;
            }
            return;
        }
    }

    private List<Layer> way(String key) {
        List<Layer> way = new ArrayList<>();
        Layer layer = top;
        while (layer != null) {
            way.add(layer);
            Entry on = wayOn(layer, partOf(layer, key));
            boolean isEnd = key.length() <= layer.beginning.length() + width;
            layer = isEnd || on == null || on.kind != BELOW ? null : on.below;
        }
        return way;
    }

    /** The end or tail of a key, or the below by which its way goes on. */
    private Entry entryOf(Layer layer, String key) {
        String part = partOf(layer, key);
        boolean isEnd = key.length() == layer.beginning.length() + part.length();
        for (Entry entry : layer.entries()) {
            if (entry.part.equals(part) && (entry.kind == END) == isEnd) {
                return entry;
            }
        }
        throw new IllegalStateException(key);
    }

    int takeKey(String key) {
        if (!values.containsKey(key)) {
            return -3;
        }
        List<Layer> way = way(key);
        Layer last = way.get(way.size() - 1);
        leave(last, entryOf(last, key));
        for (int l = way.size() - 1; l > 0; l--) {
            List<Entry> entries = way.get(l).entries();
            if (entries.size() == 1 && entries.get(0).kind != BELOW) {
                Entry below = wayOn(way.get(l - 1), partOf(way.get(l - 1), key));
                below.kind = TAIL;
                below.rest = entries.get(0).part + entries.get(0).rest;
                below.below = null;
                folded++;
            }
        }
        return values.remove(key);
    }

    private int takeRange(String from, String to) {
        int gone = 0;
        for (String key : new ArrayList<>(values.keySet())) {
            if (key.compareTo(from) >= 0 && key.compareTo(to) <= 0) {
                takeKey(key);
                gone++;
            }
        }
        return gone;
    }

    private List<Layer> layersFrom(Layer layer) {
        List<Layer> all = new ArrayList<>();
        all.add(layer);
        for (Entry entry : layer.entries()) {
            if (entry.kind == BELOW) {
                all.addAll(layersFrom(entry.below));
            }
        }
        return all;
    }

    private int height(Layer layer) {
        int most = 0;
        for (Entry entry : layer.entries()) {
            if (entry.kind == BELOW) {
                most = Math.max(most, height(entry.below));
            }
        }
        return most + 1;
    }

    private int keysIn(Layer layer) {
        int keys = 0;
        for (Entry entry : layer.entries()) {
            keys += entry.kind == BELOW ? keysIn(entry.below) : 1;
        }
        return keys;
    }

    private int entriesOf(int kind) {
        int entries = 0;
        for (Layer layer : layersFrom(top)) {
            for (Entry entry : layer.entries()) {
                entries += entry.kind == kind ? 1 : 0;
            }
        }
        return entries;
    }

    private int weight() {
        int weight = 0;
        for (Layer layer : layersFrom(top)) {
            weight += 8 + 4 * layer.pages.size();
            for (Entry entry : layer.entries()) {
                weight += 2 + entry.bytes();
            }
        }
        return weight;
    }

    private int pageOf(Layer layer, Entry entry) {
        for (int p = 0; p < layer.pages.size(); p++) {
            if (layer.pages.get(p).contains(entry)) {
                return p;
            }
        }
        throw new IllegalStateException();
    }

    // ---- the tape and its texts

    static boolean isKeyByte(char sign) {
        return sign >= 33 && sign <= 126 && ";=,~".indexOf(sign) < 0;
    }

    private String told(int n) {
        String text = tape.substring(0, n);
        tape = "";
        return text;
    }

    private boolean isKeyTold(int n) {
        return n >= 1 && n <= 24 && n <= tape.length();
    }

    private static boolean isKey(String text) {
        for (char sign : text.toCharArray()) {
            if (!isKeyByte(sign)) {
                return false;
            }
        }
        return true;
    }

    private static int keyEnd(String text, int from) throws Fault {
        int at = from;
        while (at < text.length() && isKeyByte(text.charAt(at))) {
            if (at - from == 24) {
                throw new Fault(5, at);
            }
            at++;
        }
        if (at == from) {
            throw new Fault(1, at);
        }
        return at;
    }

    private static int numberEnd(String text, int from) throws Fault {
        int at = from;
        while (at < text.length() && Character.isDigit(text.charAt(at)) && text.charAt(at) < 128) {
            if (at - from == 5) {
                throw new Fault(2, at);
            }
            at++;
        }
        if (at == from) {
            throw new Fault(1, at);
        }
        return at;
    }

    private static int sign(String text, int at, char wanted) throws Fault {
        if (at >= text.length() || text.charAt(at) != wanted) {
            throw new Fault(1, at);
        }
        return at + 1;
    }

    private static List<String[]> items(String text) throws Fault {
        List<String[]> items = new ArrayList<>();
        int at = 0;
        while (true) {
            if (items.size() == 20) {
                throw new Fault(4, at);
            }
            if (at >= text.length() || "+-~".indexOf(text.charAt(at)) < 0) {
                throw new Fault(1, at);
            }
            String kind = text.substring(at, at + 1);
            int end = keyEnd(text, at + 1);
            String key = text.substring(at + 1, end);
            String other = "";
            if (kind.equals("+")) {
                int from = sign(text, end, '=');
                end = numberEnd(text, from);
                other = text.substring(from, end);
            } else if (kind.equals("~")) {
                int from = sign(text, end, ',');
                end = keyEnd(text, from);
                other = text.substring(from, end);
            }
            items.add(new String[] {kind, key, other});
            if (end == text.length()) {
                return items;
            }
            at = sign(text, end, ';');
        }
    }

    private static List<Step> stepsOf(String text) throws Fault {
        List<Step> steps = new ArrayList<>();
        int at = 0;
        while (!text.isEmpty()) {
            if (steps.size() == 8) {
                throw new Fault(4, at);
            }
            if (at >= text.length() || "p><leokdtr".indexOf(text.charAt(at)) < 0) {
                throw new Fault(1, at);
            }
            Step step = new Step();
            step.kind = text.charAt(at);
            int end = at + 1;
            if (step.kind == 'p') {
                end = keyEnd(text, at + 1);
                step.key = text.substring(at + 1, end);
            } else if ("><lkdt".indexOf(step.kind) >= 0) {
                end = numberEnd(text, at + 1);
                step.number = Integer.parseInt(text.substring(at + 1, end));
                if (step.kind == 'k' && step.number == 0) {
                    throw new Fault(3, at + 1);
                }
            }
            steps.add(step);
            if (end == text.length()) {
                return steps;
            }
            at = sign(text, end, ';');
        }
        return steps;
    }

    private int doItems(List<String[]> items) {
        for (int i = 0; i < items.size(); i++) {
            String[] item = items.get(i);
            boolean isDone;
            if (item[0].equals("+")) {
                isDone = putKey(item[1], Integer.parseInt(item[2])) != -4;
            } else if (item[0].equals("-")) {
                isDone = takeKey(item[1]) != -3;
            } else {
                isDone = takeRange(item[1], item[2]) > 0;
            }
            if (!isDone) {
                return i;
            }
        }
        return items.size();
    }

    // ---- the calls

    int feed(int... words) {
        if (tape.length() > 220) {
            return -1;
        }
        StringBuilder more = new StringBuilder(tape);
        for (int word : words) {
            for (int shift = 24; shift >= 0; shift -= 8) {
                more.append((char) (word >>> shift & 255));
            }
        }
        tape = more.toString();
        return tape.length();
    }

    int begin(int newWidth, int newRoom) {
        if (newWidth < 1 || newWidth > 8 || newRoom < 2 || newRoom > 8) {
            return -1;
        }
        Model fresh = new Model();
        fresh.steps = steps;
        fresh.width = newWidth;
        fresh.room = newRoom;
        takeOver(fresh);
        tape = "";
        return 0;
    }

    int put(int n, int value) {
        if (!isKeyTold(n) || value < 0 || value > 99999) {
            return -1;
        }
        String key = told(n);
        return isKey(key) ? putKey(key, value) : -2;
    }

    int take(int n) {
        if (!isKeyTold(n)) {
            return -1;
        }
        String key = told(n);
        return isKey(key) ? takeKey(key) : -2;
    }

    int orders(int n) {
        if (n < 1 || n > 200 || n > tape.length()) {
            return -1;
        }
        try {
            return doItems(items(told(n)));
        } catch (Fault fault) {
            return fault.code;
        }
    }

    int batch(int n) {
        if (n < 1 || n > 200 || n > tape.length()) {
            return -1;
        }
        try {
            List<String[]> items = items(told(n));
            Model ahead = copyOfAll();
            int done = doItems(items);
            if (done < items.size()) {
                takeOver(ahead);
                return -3 - done;
            }
            return done;
        } catch (Fault fault) {
            return fault.code;
        }
    }

    int count(int what) {
        int pages = 0;
        for (Layer layer : layersFrom(top)) {
            pages += layer.pages.size();
        }
        int together = 0;
        for (int value : values.values()) {
            together += value;
        }
        int[] all = {values.size(), width, room, layersFrom(top).size(), pages, entriesOf(END), entriesOf(TAIL),
            entriesOf(BELOW), height(top), parted, joined, made, folded, weight(), together, tape.length()};
        return what < 0 || what >= all.length ? -1 : all[what];
    }

    int value(int n) {
        if (!isKeyTold(n)) {
            return -1;
        }
        String key = told(n);
        return isKey(key) ? values.getOrDefault(key, -3) : -2;
    }

    int rank(int n) {
        if (!isKeyTold(n)) {
            return -1;
        }
        String key = told(n);
        return isKey(key) ? values.headMap(key).size() : -2;
    }

    private List<String> keys() {
        return new ArrayList<>(values.keySet());
    }

    private int away(String key) {
        int away = 0;
        for (Layer layer : way(key)) {
            away += pageOf(layer, entryOf(layer, key)) + 1;
        }
        return away;
    }

    int key(int i, int k) {
        if (i < 0 || i >= values.size() || k < -3) {
            return -1;
        }
        String key = keys().get(i);
        if (k == -1) {
            return key.length();
        }
        if (k == -2) {
            return values.get(key);
        }
        if (k == -3) {
            return away(key);
        }
        return k < key.length() ? key.charAt(k) : -4;
    }

    private int numberOf(String key) {
        return key == null ? -3 : keys().indexOf(key);
    }

    int near(int n, int what) {
        if (!isKeyTold(n) || what < 0 || what > 3) {
            return -1;
        }
        String key = told(n);
        if (!isKey(key)) {
            return -2;
        }
        return numberOf(what == 0 ? values.floorKey(key) : what == 1 ? values.ceilingKey(key)
            : what == 2 ? values.lowerKey(key) : values.higherKey(key));
    }

    int begins(int n, int what) {
        if (!isKeyTold(n) || what < 0 || what > 2) {
            return -1;
        }
        String beginning = told(n);
        if (!isKey(beginning)) {
            return -2;
        }
        int many = 0;
        int first = -3;
        int together = 0;
        for (Map.Entry<String, Integer> at : values.entrySet()) {
            if (at.getKey().startsWith(beginning)) {
                many++;
                together += at.getValue();
                first = first < 0 ? numberOf(at.getKey()) : first;
            }
        }
        return what == 0 ? many : what == 1 ? first : together;
    }

    private static int alikeBytes(String a, String b) {
        int alike = 0;
        while (alike < a.length() && alike < b.length() && a.charAt(alike) == b.charAt(alike)) {
            alike++;
        }
        return alike;
    }

    int alike(int i, int j) {
        List<String> keys = keys();
        if (i < 0 || j < 0 || i >= keys.size() || j >= keys.size()) {
            return -1;
        }
        return alikeBytes(keys.get(i), keys.get(j));
    }

    int cursor(int c, int n) {
        if (c < 0 || c > 3 || !isKeyTold(n)) {
            return -1;
        }
        String key = told(n);
        if (!isKey(key)) {
            return -2;
        }
        cursors[c] = new Cursor();
        cursors[c].key = key;
        return 0;
    }

    private List<Entry> pageOfKey(String key) {
        List<Layer> way = way(key);
        Layer last = way.get(way.size() - 1);
        return last.pages.get(pageOf(last, entryOf(last, key)));
    }

    int step(int c, boolean isForth) {
        if (c < 0 || c > 3) {
            return -1;
        }
        Cursor cursor = cursors[c];
        if (cursor == null) {
            return -4;
        }
        String next = isForth ? values.higherKey(cursor.key) : values.lowerKey(cursor.key);
        if (next == null) {
            return -3;
        }
        if (!values.containsKey(cursor.key)) {
            cursor.lost++;
        } else if (pageOfKey(cursor.key) == pageOfKey(next)) {
            cursor.near++;
        } else {
            cursor.far++;
        }
        cursor.key = next;
        return numberOf(next);
    }

    int cursorIs(int c, int what) {
        if (c < 0 || c > 3 || cursors[c] == null || what < 0 || what > 3 && what < 10 || what > 33) {
            return -1;
        }
        Cursor cursor = cursors[c];
        if (what >= 10) {
            return what - 10 < cursor.key.length() ? cursor.key.charAt(what - 10) : -4;
        }
        int number = values.containsKey(cursor.key) ? numberOf(cursor.key) : -3;
        return new int[] {number, cursor.near, cursor.far, cursor.lost}[what];
    }

    int full(int entries) {
        if (entries < 1 || entries > 8) {
            return -1;
        }
        int pages = 0;
        for (Layer layer : layersFrom(top)) {
            for (List<Entry> page : layer.pages) {
                pages += page.size() == entries ? 1 : 0;
            }
        }
        return pages;
    }

    int closest(int what) {
        if (what != 0 && what != 1) {
            return -1;
        }
        List<String> keys = keys();
        if (keys.size() < 2) {
            return -2;
        }
        int first = 0;
        for (int i = 1; i + 1 < keys.size(); i++) {
            if (alike(i, i + 1) > alike(first, first + 1)) {
                first = i;
            }
        }
        return what == 0 ? alike(first, first + 1) : first;
    }

    private Layer layerAt(int l) {
        List<Layer> layers = layersFrom(top);
        layers.sort((a, b) -> a.beginning.compareTo(b.beginning));
        return l < 0 || l >= layers.size() ? null : layers.get(l);
    }

    int layer(int l, int what) {
        Layer layer = layerAt(l);
        if (layer == null || what < 0 || what > 3 && what < 10) {
            return -1;
        }
        if (what >= 10) {
            return what - 10 < layer.pages.size() ? layer.pages.get(what - 10).size() : -4;
        }
        return new int[] {layer.beginning.length(), layer.entries().size(), layer.pages.size(), keysIn(layer)}[what];
    }

    int entry(int l, int e, int what) {
        Layer layer = layerAt(l);
        boolean isWhat = what >= 0 && what <= 4 || what >= 10 && what <= 17 || what >= 20 && what <= 42;
        if (layer == null || !isWhat || e < 0 || e >= layer.entries().size()) {
            return -1;
        }
        Entry entry = layer.entries().get(e);
        switch (what) {
            case 0:
                return entry.kind;
            case 1:
                return entry.part.length();
            case 2:
                return entry.kind == BELOW ? -2 : values.get(layer.beginning + entry.part + entry.rest);
            case 3:
                return entry.rest.length();
            case 4:
                return pageOf(layer, entry);
            default:
                String bytes = what < 20 ? entry.part : entry.rest;
                int k = what % 10 + (what < 20 ? 0 : what / 10 * 10 - 20);
                return k < bytes.length() ? bytes.charAt(k) : -4;
        }
    }

    int query(int n) {
        if (n < 0 || n > 60 || n > tape.length()) {
            return -1;
        }
        try {
            steps = stepsOf(told(n));
            return rows().size();
        } catch (Fault fault) {
            return fault.code;
        }
    }

    private List<String> rows() {
        List<String> rows = keys();
        for (Step step : steps) {
            if (step.kind == 'r') {
                Collections.reverse(rows);
                continue;
            }
            List<String> left = new ArrayList<>();
            for (int i = 0; i < rows.size(); i++) {
                String key = rows.get(i);
                int value = values.get(key);
                boolean stays = step.kind == 'p' && key.startsWith(step.key)
                    || step.kind == '>' && value > step.number
                    || step.kind == '<' && value < step.number
                    || step.kind == 'l' && key.length() >= step.number
                    || step.kind == 'e' && value % 2 == 0
                    || step.kind == 'o' && value % 2 == 1
                    || step.kind == 'k' && i % step.number == 0
                    || step.kind == 'd' && i >= step.number
                    || step.kind == 't' && i < step.number;
                if (stays) {
                    left.add(key);
                }
            }
            rows = left;
        }
        return rows;
    }

    int found(int what) {
        if (what < 0 || what > 5) {
            return -1;
        }
        int together = 0;
        int bytes = 0;
        TreeSet<Integer> unlike = new TreeSet<>();
        for (String key : rows()) {
            together += values.get(key);
            bytes += key.length();
            unlike.add(values.get(key));
        }
        return new int[] {rows().size(), together, unlike.isEmpty() ? -2 : unlike.last(),
            unlike.isEmpty() ? -2 : unlike.first(), bytes, unlike.size()}[what];
    }

    int foundAt(int i) {
        return i < 0 ? -1 : i < rows().size() ? numberOf(rows().get(i)) : -4;
    }

    int takeFound() {
        List<String> rows = rows();
        for (String key : rows) {
            takeKey(key);
        }
        return rows.size();
    }

    int change(int kind, int v) {
        if (kind < 0 || kind > 2 || v < 0 || v > 99999) {
            return -1;
        }
        List<String> rows = rows();
        for (String key : rows) {
            long old = values.get(key);
            long comes = kind == 0 ? old + v : kind == 1 ? old * v : v;
            values.put(key, (int) Math.min(99999, comes));
        }
        return rows.size();
    }

    private Model again(int otherWidth, int otherRoom) {
        Model again = new Model();
        again.width = otherWidth;
        again.room = otherRoom;
        for (Map.Entry<String, Integer> at : values.entrySet()) {
            again.putKey(at.getKey(), at.getValue());
        }
        return again;
    }

    int tried(int otherWidth, int otherRoom, int what) {
        boolean isSuch = otherWidth >= 1 && otherWidth <= 8 && otherRoom >= 2 && otherRoom <= 8;
        return isSuch && what >= 3 && what <= 13 ? again(otherWidth, otherRoom).count(what) : -1;
    }

    int best(int what) {
        if (what != 0 && what != 1) {
            return -1;
        }
        int best = 1;
        for (int w = 2; w <= 8; w++) {
            if (again(w, room).weight() < again(best, room).weight()) {
                best = w;
            }
        }
        return what == 0 ? best : again(best, room).weight();
    }

    int keep() {
        kept = copyOfAll();
        return values.size();
    }

    boolean undo() {
        if (kept == null) {
            return false;
        }
        takeOver(kept);
        return true;
    }

    int unlike(int what) {
        if (what < 0 || what > 2) {
            return -1;
        }
        if (kept == null) {
            return -2;
        }
        Set<String> came = new HashSet<>(values.keySet());
        came.removeAll(kept.values.keySet());
        Set<String> went = new HashSet<>(kept.values.keySet());
        went.removeAll(values.keySet());
        int others = 0;
        for (String key : values.keySet()) {
            others += kept.values.containsKey(key) && !kept.values.get(key).equals(values.get(key)) ? 1 : 0;
        }
        return what == 0 ? came.size() : what == 1 ? went.size() : others;
    }

    int check(int n) {
        if (n < 0 || n > 24 || n > tape.length()) {
            return -2;
        }
        String first = values.isEmpty() ? "" : values.firstKey();
        for (int k = 0; k < n; k++) {
            if (k >= first.length() || first.charAt(k) != tape.charAt(k)) {
                tape = "";
                return k;
            }
        }
        return -1;
    }
}
