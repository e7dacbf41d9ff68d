/** Counts the calls whose answer is not the one that is due, and prints them. */
final class Check {
    static final int GLOB = 0;
    static final int PATH = 1;
    static final int LIKE = 2;
    static final int REGEX = 3;

    private final String title;
    private int calls;
    private int wrong;

    Check(String title) {
        this.title = title;
    }

    void due(String call, long got, long want) {
        calls++;
        if (got != want) {
            wrong++;
            System.out.println(title + ": " + call + " answered " + got + ", due is " + want);
        }
    }

    void due(String call, boolean got, boolean want) {
        due(call, got ? 1 : 0, want ? 1 : 0);
    }

    void due(String call, String got, String want) {
        calls++;
        if (!got.equals(want)) {
            wrong++;
            System.out.println(title + ": " + call + " answered '" + got + "', due is '" + want + "'");
        }
    }

    /** Ends the test's program, with exit code 1 if an answer was wrong. */
    void end() {
        System.out.println(title + ": " + calls + " answers, " + wrong + " not as due");
        if (wrong != 0 || calls == 0) {
            System.exit(1);
        }
    }

    static void write(PatternDialects x, String text) {
        x.wipe();
        for (int k = 0; k < text.length(); k++) {
            if (!x.type(text.charAt(k))) {
                throw new IllegalStateException("can not be typed: " + text);
            }
        }
    }

    static String textOf(PatternDialects x) {
        StringBuilder text = new StringBuilder();
        for (int k = 0; k < x.length(); k++) {
            text.append((char) x.at(k));
        }
        return text.toString();
    }

    static int compile(PatternDialects x, int slot, int dialect, String pattern) {
        write(x, pattern);
        return x.compile(slot, dialect);
    }

    /** That the pattern has an error, and where. */
    void dueError(int dialect, String pattern, int place) {
        due("error of " + pattern, compile(new PatternDialects(), 0, dialect, pattern), -1 - place);
    }

    /** That a pattern of one set has just these characters. */
    void dueSet(int dialect, String pattern, String characters) {
        PatternDialects x = new PatternDialects();
        due("compile " + pattern, compile(x, 0, dialect, pattern) > 0, true);
        due("positions of " + pattern, x.positions(0), 1);
        StringBuilder taken = new StringBuilder();
        for (int c = 32; c <= 126; c++) {
            write(x, String.valueOf((char) c));
            if (x.matches(0) == 1) {
                taken.append((char) c);
            }
        }
        due("set of " + pattern, taken.toString(), characters);
        due("words(0, 1) of " + pattern, x.words(0, 1), characters.length());
    }

    /** That a pattern takes the texts, or that it does not. */
    void dueMatches(int dialect, String pattern, boolean want, String... texts) {
        PatternDialects x = new PatternDialects();
        due("compile " + pattern, compile(x, 0, dialect, pattern) > 0, true);
        for (String text : texts) {
            write(x, text);
            due(pattern + " takes " + text, x.matches(0), want ? 1 : 0);
        }
    }

    void duePositions(int dialect, String pattern, int want) {
        PatternDialects x = new PatternDialects();
        compile(x, 0, dialect, pattern);
        due("positions of " + pattern, x.positions(0), want);
    }

    /** All characters but some. */
    static String allBut(String without) {
        StringBuilder all = new StringBuilder();
        for (char c = 32; c <= 126; c++) {
            if (without.indexOf(c) < 0) {
                all.append(c);
            }
        }
        return all.toString();
    }
}
