/** Promise 6 on every short pattern that a dialect's signs and a few letters make, against the slow reading of the document. */
public final class ShortPatternsTest {
    private static final String[] SIGNS = {"a-[]\\!*?b", "a/[]{},*\\-", "a_%\\b", "a()|*{1,}[]^-\\d"};
    private static final int[] SIZES = {5, 5, 6, 4};
    // What goes on behind a class's or a bracket's beginning, where longer patterns are needed.
    private static final String[] BEGINNINGS = {"[b", "{[", "", "[a-["};
    private static final int PATTERNS_OF_ONE_OBJECT = 40;

    private final Check check = new Check("ShortPatternsTest");
    private PatternDialects x = new PatternDialects();
    private int patterns;

    public static void main(String[] args) {
        ShortPatternsTest test = new ShortPatternsTest();
        for (int dialect = 0; dialect < 4; dialect++) {
            test.compareAll(dialect, "", SIZES[dialect]);
            test.compareAll(dialect, BEGINNINGS[dialect], 4);
        }
        test.check.end();
    }

    private void compareAll(int dialect, String pattern, int more) {
        compare(dialect, pattern);
        if (more > 0) {
            for (char sign : SIGNS[dialect].toCharArray()) {
                compareAll(dialect, pattern + sign, more - 1);
            }
        }
    }

    private void compare(int dialect, String pattern) {
        if (patterns % PATTERNS_OF_ONE_OBJECT == 0) {
            x = new PatternDialects();
        }
        patterns++;
        int got = Check.compile(x, 0, dialect, pattern);
        check.due("compile of " + dialect + " " + pattern, got, dueAnswer(dialect, pattern));
    }

    private static int dueAnswer(int dialect, String pattern) {
        try {
            return new Slow.Machine(Slow.read(pattern, dialect)).states();
        } catch (Slow.Fault fault) {
            return -1 - fault.place;
        } catch (Slow.TooBig tooBig) {
            return PatternDialects.TOO_BIG;
        }
    }
}
