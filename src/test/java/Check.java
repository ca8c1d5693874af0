/** Counts what is not as due, prints it, and ends a test. */
final class Check {
    private final String name;
    private String sentence = "";
    private int sentences = 0;
    private int row = 0;
    private int asked = 0;
    private int wrong = 0;

    Check(String name) {
        this.name = name;
    }

    /** The document's sentence that the rows behind this are a test of. */
    void says(String words) {
        sentence = words;
        sentences++;
        row = 0;
    }

    /** One more row of the sentence said last. */
    void due(long got, long want) {
        row++;
        due(sentence + " (row " + row + ")", got, want);
    }

    void due(boolean got, boolean want) {
        due(got ? 1 : 0, want ? 1 : 0);
    }

    void due(String call, long got, long want) {
        asked++;
        if (got != want) {
            wrong++;
            System.out.println(name + ": " + call + " answered " + got + ", due is " + want);
        }
    }

    void due(String call, boolean got, boolean want) {
        due(call, got ? 1 : 0, want ? 1 : 0);
    }

    int wrong() {
        return wrong;
    }

    void close() {
        String said = sentences > 0 ? sentences + " sentences, " : "";
        System.out.println(name + ": " + said + asked + " asked, " + wrong + " wrong");
        if (wrong > 0 || asked == 0) {
            System.exit(1);
        }
    }

    /** Puts a text on the empty tape; false if it has no room there. */
    static boolean tell(DinnerRounds x, String text) {
        int[] words = packed(text);
        for (int i = 0; i < words.length; i += 5) {
            if (x.feed(words[i], words[i + 1], words[i + 2], words[i + 3], words[i + 4]) == DinnerRounds.NONE) {
                return false;
            }
        }
        return x.end(text.length()) == text.length();
    }

    static int rule(DinnerRounds x, String text) {
        return tell(x, text) ? x.rule() : -100;
    }

    static int[] packed(String text) {
        int[] words = new int[(text.length() + 19) / 20 * 5];
        for (int i = 0; i < words.length * 4; i++) {
            int sign = i < text.length() ? text.charAt(i) & 255 : 32;
            words[i / 4] = words[i / 4] << 8 | sign;
        }
        return words;
    }

    static int set(int... guests) {
        int set = 0;
        for (int guest : guests) {
            set |= 1 << guest;
        }
        return set;
    }
}
