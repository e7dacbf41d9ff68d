import java.math.BigInteger;

/** Promise 13: words. */
public final class Promise13WordsTest {
    private static final int[] WRONG_SLOTS = {-1, 4, 5, Integer.MIN_VALUE, Integer.MAX_VALUE};
    private static final int[] WRONG_LENGTHS = {-1, 49, 50, Integer.MIN_VALUE, Integer.MAX_VALUE};

    public static void main(String[] args) {
        Check check = new Check("Promise13WordsTest");
        wordsOfNCharacters(check);
        aWordCountsOnce(check);
        ofNoCharacters(check);
        withoutWords(check);
        wrappingTo64Bits(check);
        wrappingAtThePowersOfTwo(check);
        badLength(check);
        badSlot(check);
        emptySlot(check);
        changesNothing(check);
        check.end();
    }

    private static void wordsOfNCharacters(Check check) {
        check.sentence("How many words of n characters a slot's pattern has");
        PatternDialects x = Check.machineOf(Check.PATH, "*/?");
        check.due("words of */?", x.words(0, 3), 94L * 94);
        x = Check.machineOf(Check.REGEX, "a{2,3}|");
        long[] due = {1, 0, 1, 1, 0, 0};
        for (int n = 0; n < due.length; n++) {
            check.due("words(0, " + n + ") of a{2,3}|", x.words(0, n), due[n]);
        }
        x = Check.machineOf(Check.LIKE, "a\\%_%");
        check.due("words(0, 2)", x.words(0, 2), 0);
        check.due("words(0, 3)", x.words(0, 3), 95);
        check.due("words(0, 4)", x.words(0, 4), 9025);
        x = Check.machineOf(Check.GLOB, "[!a-c]?");
        check.due("words(0, 2)", x.words(0, 2), 92 * 95);
    }

    private static void aWordCountsOnce(Check check) {
        check.sentence("How many words: one that can be read in several ways is one");
        PatternDialects x = Check.machineOf(Check.REGEX, "(a|a|[ab])*");
        check.due("words(0, 4)", x.words(0, 4), 16);
        check.due("words(0, 48)", x.words(0, 48), 1L << 48);
        x = Check.machineOf(Check.GLOB, "***");
        check.due("words(0, 2)", x.words(0, 2), 95 * 95);
        x = Check.machineOf(Check.REGEX, "(a?){9}");
        check.due("words(0, 5)", x.words(0, 5), 1);
    }

    private static void ofNoCharacters(Check check) {
        check.sentence("words of n characters: of 0 there is the empty word or none");
        check.due("words(0, 0) of nothing", Check.machineOf(Check.GLOB, "").words(0, 0), 1);
        check.due("words(0, 0) of *", Check.machineOf(Check.GLOB, "*").words(0, 0), 1);
        check.due("words(0, 0) of a", Check.machineOf(Check.GLOB, "a").words(0, 0), 0);
        check.due("words(0, 0) of a+", Check.machineOf(Check.REGEX, "a+").words(0, 0), 0);
        check.due("words(0, 1) of nothing", Check.machineOf(Check.GLOB, "").words(0, 1), 0);
    }

    private static void withoutWords(Check check) {
        check.sentence("How many words: a pattern may have none");
        PatternDialects x = Check.machineOf(Check.REGEX, "[a-[a]]");
        for (int n = 0; n <= 48; n++) {
            check.due("words(0, " + n + ")", x.words(0, n), 0);
        }
        x = Check.machineOf(Check.GLOB, "a".repeat(40));
        check.due("words(0, 39)", x.words(0, 39), 0);
        check.due("words(0, 40)", x.words(0, 40), 1);
        check.due("words(0, 41)", x.words(0, 41), 0);
    }

    private static void wrappingTo64Bits(Check check) {
        check.sentence("wrapping to 64 bits");
        PatternDialects x = Check.machineOf(Check.GLOB, "*");
        for (int n = 0; n <= 48; n++) {
            check.due("words(0, " + n + ")", x.words(0, n), BigInteger.valueOf(95).pow(n).longValue());
        }
        x = Check.machineOf(Check.REGEX, ".*a");
        for (int n = 1; n <= 48; n++) {
            check.due("words(0, " + n + ") of .*a", x.words(0, n), BigInteger.valueOf(95).pow(n - 1).longValue());
        }
    }

    private static void wrappingAtThePowersOfTwo(Check check) {
        check.sentence("wrapping to 64 bits: 2 to the 63rd is the least number, 2 to the 64th is 0");
        PatternDialects x = Check.machineOf(Check.REGEX, "[a-h]*");
        check.due("words(0, 20)", x.words(0, 20), 1L << 60);
        check.due("words(0, 21)", x.words(0, 21), Long.MIN_VALUE);
        check.due("words(0, 22)", x.words(0, 22), 0);
        x = Check.machineOf(Check.REGEX, "[ -_]*");
        check.due("words(0, 10)", x.words(0, 10), 1L << 60);
        check.due("words(0, 11)", x.words(0, 11), 0);
        x = Check.machineOf(Check.REGEX, "[a-h]*|i*");
        check.due("words(0, 21)", x.words(0, 21), Long.MIN_VALUE + 1);
        check.due("words(0, 22)", x.words(0, 22), 1);
    }

    private static void badLength(Check check) {
        check.sentence("BAD (also when n is not 0 .. 48)");
        PatternDialects x = Check.machineOf(Check.REGEX, "a*");
        for (int n : WRONG_LENGTHS) {
            check.due("words(0, " + n + ")", x.words(0, n), PatternDialects.BAD);
            check.due("words(1, " + n + ")", x.words(1, n), PatternDialects.BAD);
            check.due("words(4, " + n + ")", x.words(4, n), PatternDialects.BAD);
        }
        check.due("words(0, 0)", x.words(0, 0), 1);
        check.due("words(0, 48)", x.words(0, 48), 1);
    }

    private static void badSlot(Check check) {
        check.sentence("BAD: a number is not as said");
        PatternDialects x = Check.machineOf(Check.GLOB, "*");
        for (int slot : WRONG_SLOTS) {
            check.due("words(" + slot + ", 1)", x.words(slot, 1), PatternDialects.BAD);
        }
    }

    private static void emptySlot(Check check) {
        check.sentence("BAD: a slot is empty");
        PatternDialects x = Check.machineOf(Check.GLOB, "*");
        for (int slot = 1; slot < 4; slot++) {
            check.due("words(" + slot + ", 1)", x.words(slot, 1), PatternDialects.BAD);
        }
    }

    private static void changesNothing(Check check) {
        check.sentence("A call that fails changes nothing, and words changes nothing at all");
        PatternDialects x = Check.machineOf(Check.REGEX, "(a|b)*abb");
        String before = Check.everythingOf(x);
        check.due("words(0, 7)", x.words(0, 7), 16);
        check.due("words(0, 49)", x.words(0, 49), PatternDialects.BAD);
        check.due("words(1, 7)", x.words(1, 7), PatternDialects.BAD);
        check.due("everything", Check.everythingOf(x), before);
    }
}
