import java.math.BigInteger;

/** Promises 7 to 10 and 13: matches, positions, states, kinds and words. */
public final class CountTest {
    private static final int[] WRONG_SLOTS = {-1, 3, 4, Integer.MIN_VALUE, Integer.MAX_VALUE};

    public static void main(String[] args) {
        Check check = new Check("CountTest");
        wrongSlots(check);
        matches(check);
        counts(check);
        words(check);
        check.end();
    }

    /** Slot 3 is empty. */
    private static void wrongSlots(Check check) {
        PatternDialects x = new PatternDialects();
        for (int slot = 0; slot < 3; slot++) {
            Check.compile(x, slot, Check.GLOB, "a");
        }
        for (int slot : WRONG_SLOTS) {
            check.due("matches(" + slot + ")", x.matches(slot), PatternDialects.BAD);
            check.due("positions(" + slot + ")", x.positions(slot), PatternDialects.BAD);
            check.due("states(" + slot + ")", x.states(slot), PatternDialects.BAD);
            check.due("kinds(" + slot + ")", x.kinds(slot), PatternDialects.BAD);
            check.due("words(" + slot + ", 1)", x.words(slot, 1), PatternDialects.BAD);
        }
    }

    private static void matches(Check check) {
        PatternDialects x = new PatternDialects();
        Check.compile(x, 0, Check.REGEX, "a.*z");
        check.due("of the pattern itself", x.matches(0), 1);
        Check.write(x, "az");
        check.due("of az", x.matches(0), 1);
        check.due("the text stays", Check.textOf(x), "az");
        Check.write(x, "a" + "~".repeat(46) + "z");
        check.due("of a full text", x.matches(0), 1);
        Check.write(x, "a" + " ".repeat(47));
        check.due("of a full text", x.matches(0), 0);
        x.wipe();
        check.due("of no text", x.matches(0), 0);
        Check.compile(x, 1, Check.REGEX, "[a-[a]]*");
        check.due("of a text behind compile", x.matches(1), 0);
        x.wipe();
        check.due("of the empty word", x.matches(1), 1);
    }

    private static void counts(Check check) {
        dueCounts(check, Check.GLOB, "", 0, 2, 2);
        dueCounts(check, Check.GLOB, "a", 1, 3, 3);
        dueCounts(check, Check.GLOB, "*", 1, 2, 1);
        dueCounts(check, Check.GLOB, "**", 2, 2, 1);
        dueCounts(check, Check.GLOB, "a*b?c", 5, 9, 8);
        dueCounts(check, Check.GLOB, "[! -~]", 1, 2, 1);
        dueCounts(check, Check.GLOB, "[! -~]*", 2, 2, 1);
        dueCounts(check, Check.PATH, "*", 1, 3, 2);
        dueCounts(check, Check.PATH, "{a,b}", 2, 4, 3);
        dueCounts(check, Check.PATH, "{a,a}", 2, 3, 3);
        dueCounts(check, Check.LIKE, "%_", 2, 2, 2);
        dueCounts(check, Check.REGEX, "x\\s", 2, 4, 4);
        dueCounts(check, Check.REGEX, "x~", 2, 4, 4);
        dueCounts(check, Check.REGEX, "a+", 2, 4, 3);
        dueCounts(check, Check.REGEX, "a*", 1, 3, 2);
        dueCounts(check, Check.REGEX, "a?", 1, 3, 3);
        dueCounts(check, Check.REGEX, "a{0}", 0, 2, 2);
        dueCounts(check, Check.REGEX, "a{3}", 3, 5, 5);
        dueCounts(check, Check.REGEX, "a{0,}", 1, 3, 2);
        dueCounts(check, Check.REGEX, "a{3,}", 4, 6, 5);
        dueCounts(check, Check.REGEX, "a{2,5}", 5, 7, 7);
        dueCounts(check, Check.REGEX, "(a{2}){2}", 4, 6, 6);
        dueCounts(check, Check.REGEX, "(a?){9}", 9, 11, 11);
        dueCounts(check, Check.REGEX, "(a|b)*", 2, 4, 2);
        dueCounts(check, Check.REGEX, "(a|b)*abb", 5, 6, 5);
        dueCounts(check, Check.REGEX, "(ab|c{2,3}d)*e+", 8, 10, 7);
        dueCounts(check, Check.REGEX, ".*", 1, 2, 1);
    }

    private static void dueCounts(Check check, int dialect, String pattern, int positions, int states, int kinds) {
        PatternDialects x = new PatternDialects();
        check.due("compile of " + pattern, Check.compile(x, 1, dialect, pattern), states);
        check.due("positions of " + pattern, x.positions(1), positions);
        check.due("states of " + pattern, x.states(1), states);
        check.due("kinds of " + pattern, x.kinds(1), kinds);
        check.due("kinds again", x.kinds(1), kinds);
        check.due("the text stays", Check.textOf(x), pattern);
    }

    private static void words(Check check) {
        PatternDialects x = new PatternDialects();
        Check.compile(x, 0, Check.GLOB, "*");
        for (int n = 0; n <= 48; n++) {
            check.due("words(0, " + n + ")", x.words(0, n), BigInteger.valueOf(95).pow(n).longValue());
        }
        int[] wrong = {-1, 49, Integer.MIN_VALUE, Integer.MAX_VALUE};
        for (int n : wrong) {
            check.due("words(0, " + n + ")", x.words(0, n), PatternDialects.BAD);
        }
        check.due("the text stays", Check.textOf(x), "*");
        Check.compile(x, 1, Check.REGEX, "(a|a|[ab])*");
        check.due("a word counts once", x.words(1, 4), 16);
        check.due("2 to the 48th", x.words(1, 48), 1L << 48);
        Check.compile(x, 1, Check.PATH, "*/?");
        check.due("slashes", x.words(1, 3), 94L * 94);
        Check.compile(x, 1, Check.REGEX, "a{2,3}|");
        long[] due = {1, 0, 1, 1, 0, 0};
        for (int n = 0; n < due.length; n++) {
            check.due("words(1, " + n + ") of a{2,3}|", x.words(1, n), due[n]);
        }
        Check.compile(x, 1, Check.REGEX, "[a-[a]]");
        check.due("no words of an empty set", x.words(1, 1), 0);
        Check.compile(x, 1, Check.REGEX, ".*a");
        BigInteger many = BigInteger.valueOf(95).pow(47);
        check.due("wrapping", x.words(1, 48), many.longValue());
    }
}
