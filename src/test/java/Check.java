/** Counts the calls whose answer is not the one that is due, and prints them under the sentence that they belong to. */
final class Check {
    static final int GLOB = 0;
    static final int PATH = 1;
    static final int LIKE = 2;
    static final int REGEX = 3;

    private final String title;
    private String sentence = "";
    private int sentences;
    private int callsOfSentence;
    private int calls;
    private int wrong;

    Check(String title) {
        this.title = title;
    }

    /** Begins the test of one sentence of the document; one that asks nothing is a fault of the test. */
    void sentence(String words) {
        endSentence();
        sentence = words;
        sentences++;
        callsOfSentence = 0;
    }

    private String heading() {
        return sentences == 0 ? title : title + ", \"" + sentence + "\"";
    }

    private void endSentence() {
        if (sentences > 0 && callsOfSentence == 0) {
            wrong++;
            System.out.println(heading() + ": nothing was asked");
        }
    }

    void due(String call, long got, long want) {
        dueAnswer(call, String.valueOf(got), String.valueOf(want));
    }

    void due(String call, boolean got, boolean want) {
        dueAnswer(call, String.valueOf(got), String.valueOf(want));
    }

    void due(String call, String got, String want) {
        dueAnswer(call, "'" + got + "'", "'" + want + "'");
    }

    private void dueAnswer(String call, String got, String want) {
        calls++;
        callsOfSentence++;
        if (!got.equals(want)) {
            wrong++;
            System.out.println(heading() + ": " + call + " answered " + got + ", due is " + want);
        }
    }

    /** Ends the test's program, with exit code 1 if an answer was wrong. */
    void end() {
        endSentence();
        String tested = sentences == 0 ? "" : sentences + " sentences, ";
        System.out.println(title + ": " + tested + calls + " answers, " + wrong + " not as due");
        if (wrong != 0 || calls == 0) {
            System.exit(1);
        }
    }

    static void write(PatternDialects x, String text) {
        x.wipe();
        for (int k = 0; k < text.length(); k++) {
            if (!x.type(text.charAt(k))) {
                throw new IllegalStateException("can not be typed: " + text);
            }
        }
    }

    static String textOf(PatternDialects x) {
        StringBuilder text = new StringBuilder();
        for (int k = 0; k < x.length(); k++) {
            text.append((char) x.at(k));
        }
        return text.toString();
    }

    static int compile(PatternDialects x, int slot, int dialect, String pattern) {
        write(x, pattern);
        return x.compile(slot, dialect);
    }

    /** A new object with a pattern's machine in slot 0. */
    static PatternDialects machineOf(int dialect, String pattern) {
        PatternDialects x = new PatternDialects();
        if (compile(x, 0, dialect, pattern) < 1) {
            throw new IllegalStateException("can not be compiled: " + pattern);
        }
        return x;
    }

    /** A new object with the machines of two patterns of REGEX in slots 0 and 1, and the other pattern as its text. */
    static PatternDialects machinesOf(String pattern, String other) {
        PatternDialects x = machineOf(REGEX, pattern);
        if (compile(x, 1, REGEX, other) < 1) {
            throw new IllegalStateException("can not be compiled: " + other);
        }
        return x;
    }

    /** All that can be asked of an object without changing it, as one text. */
    static String everythingOf(PatternDialects x) {
        StringBuilder all = new StringBuilder(textOf(x));
        for (int slot = 0; slot < 4; slot++) {
            all.append(" ; ").append(x.matches(slot)).append(' ').append(x.positions(slot));
            all.append(' ').append(x.states(slot)).append(' ').append(x.kinds(slot));
            for (int n = 0; n < 4; n++) {
                all.append(' ').append(x.words(slot, n)).append(' ').append(x.within(slot, n));
            }
        }
        return all.toString();
    }

    /** That the pattern has an error, and where. */
    void dueError(int dialect, String pattern, int place) {
        due("error of " + pattern, compile(new PatternDialects(), 0, dialect, pattern), -1 - place);
    }

    /** That a pattern of one set has just these characters. */
    void dueSet(int dialect, String pattern, String characters) {
        PatternDialects x = new PatternDialects();
        due("compile of " + pattern, compile(x, 0, dialect, pattern) > 0, true);
        due("positions of " + pattern, x.positions(0), 1);
        StringBuilder taken = new StringBuilder();
        for (int c = 32; c <= 126; c++) {
            write(x, String.valueOf((char) c));
            if (x.matches(0) == 1) {
                taken.append((char) c);
            }
        }
        due("set of " + pattern, taken.toString(), characters);
        due("words(0, 1) of " + pattern, x.words(0, 1), characters.length());
    }

    /** That a pattern takes the texts, or that it does not. */
    void dueMatches(int dialect, String pattern, boolean want, String... texts) {
        PatternDialects x = new PatternDialects();
        due("compile of " + pattern, compile(x, 0, dialect, pattern) > 0, true);
        for (String text : texts) {
            write(x, text);
            due(pattern + " takes " + text, x.matches(0), want ? 1 : 0);
        }
    }

    void duePositions(int dialect, String pattern, int want) {
        PatternDialects x = new PatternDialects();
        compile(x, 0, dialect, pattern);
        due("positions of " + pattern, x.positions(0), want);
    }

    void dueStates(int dialect, String pattern, int want) {
        PatternDialects x = new PatternDialects();
        due("compile of " + pattern, compile(x, 0, dialect, pattern), want);
        due("states of " + pattern, x.states(0), want);
    }

    void dueKinds(int dialect, String pattern, int want) {
        PatternDialects x = new PatternDialects();
        compile(x, 0, dialect, pattern);
        due("kinds of " + pattern, x.kinds(0), want);
        due("kinds of " + pattern + ", asked again", x.kinds(0), want);
    }

    /** All characters but some. */
    static String allBut(String without) {
        StringBuilder all = new StringBuilder();
        for (char c = 32; c <= 126; c++) {
            if (without.indexOf(c) < 0) {
                all.append(c);
            }
        }
        return all.toString();
    }
}
