/** Counts answers that are not as due, feeds texts, and tells the outcome. */
final class Due {
    private int asked;
    private int wrong;

    void is(String call, long got, long want) {
        asked++;
        if (got != want) {
            wrong++;
            System.out.println(call + " answered " + got + ", due is " + want);
        }
    }

    void is(String call, boolean got, boolean want) {
        is(call, got ? 1 : 0, want ? 1 : 0);
    }

    boolean isWrong() {
        return wrong > 0;
    }

    void end(String name) {
        System.out.println(name + ": " + asked + " answers, " + wrong + " not as due");
        if (wrong > 0 || asked == 0) {
            System.exit(1);
        }
    }

    /** The five ints of the twenty bytes of a text from a place on; behind the text lies a sign of one's own. */
    static int[] words(String text, int from, char filler) {
        int[] words = new int[5];
        for (int k = 0; k < 20; k++) {
            int sign = from + k < text.length() ? text.charAt(from + k) : filler;
            words[k / 4] = words[k / 4] << 8 | sign & 255;
        }
        return words;
    }

    /** Feeds a text to an empty tape, twenty bytes each time, and tells its length. */
    static int feed(PageTrie trie, String text) {
        for (int from = 0; from < Math.max(1, text.length()); from += 20) {
            int[] w = words(text, from, 'z');
            trie.feed(w[0], w[1], w[2], w[3], w[4]);
        }
        return text.length();
    }
}
