/** Promise 7: matches. */
public final class Promise07MatchesTest {
    private static final int[] WRONG_SLOTS = {-1, 4, 5, Integer.MIN_VALUE, Integer.MAX_VALUE};

    public static void main(String[] args) {
        Check check = new Check("Promise07MatchesTest");
        oneOrNot(check);
        theEmptyText(check);
        aFullText(check);
        noWordsAtAll(check);
        badSlot(check);
        emptySlot(check);
        changesNothing(check);
        check.end();
    }

    private static void oneOrNot(Check check) {
        check.sentence("1 if the text is a word of a slot's pattern, 0 if not");
        PatternDialects x = Check.machineOf(Check.REGEX, "a.*z");
        check.due("matches of the pattern itself", x.matches(0), 1);
        String[] words = {"az", "aaz", "a z"};
        for (String word : words) {
            Check.write(x, word);
            check.due("matches of " + word, x.matches(0), 1);
        }
        String[] others = {"a", "z", "xaz", "azx", "AZ"};
        for (String other : others) {
            Check.write(x, other);
            check.due("matches of " + other, x.matches(0), 0);
        }
    }

    private static void theEmptyText(Check check) {
        check.sentence("A state ACCEPTS if it is the beginning and the empty word is a word of the expression");
        String[] withEmpty = {"", "a*", "a?", "a{0}", "|a", "(a|)b*", "[a-[a]]*", "()", "a{0,9}"};
        for (String pattern : withEmpty) {
            check.dueMatches(Check.REGEX, pattern, true, "");
        }
        String[] withoutEmpty = {"a", "a+", "a{1,}", "a|b", "(a|)b", "[a-[a]]", "."};
        for (String pattern : withoutEmpty) {
            check.dueMatches(Check.REGEX, pattern, false, "");
        }
    }

    private static void aFullText(Check check) {
        check.sentence("1 if the text is a word of a slot's pattern: a text of 48 too");
        PatternDialects x = Check.machineOf(Check.REGEX, "a.*z");
        Check.write(x, "a" + "~".repeat(46) + "z");
        check.due("matches", x.matches(0), 1);
        Check.write(x, "a" + " ".repeat(47));
        check.due("matches", x.matches(0), 0);
        check.dueMatches(Check.REGEX, "(a{8}){5}", false, "a".repeat(48), "a".repeat(39), "a".repeat(41));
        check.dueMatches(Check.REGEX, "(a{8}){5}", true, "a".repeat(40));
    }

    private static void noWordsAtAll(Check check) {
        check.sentence("0 if not: a pattern without words takes none");
        check.dueMatches(Check.REGEX, "[a-[a]]", false, "", "a", "b");
        check.dueMatches(Check.PATH, "[/]", false, "", "/", "a");
        check.dueMatches(Check.GLOB, "a[! -~]", false, "", "a", "aa");
    }

    private static void badSlot(Check check) {
        check.sentence("BAD: a number is not as said");
        PatternDialects x = Check.machineOf(Check.GLOB, "*");
        for (int slot : WRONG_SLOTS) {
            check.due("matches(" + slot + ")", x.matches(slot), PatternDialects.BAD);
        }
    }

    private static void emptySlot(Check check) {
        check.sentence("BAD: a slot is empty");
        PatternDialects x = new PatternDialects();
        for (int slot = 0; slot < 4; slot++) {
            check.due("matches(" + slot + ")", x.matches(slot), PatternDialects.BAD);
        }
        Check.compile(x, 2, Check.GLOB, "*");
        check.due("matches(1)", x.matches(1), PatternDialects.BAD);
        check.due("matches(2)", x.matches(2), 1);
        check.due("matches(3)", x.matches(3), PatternDialects.BAD);
    }

    private static void changesNothing(Check check) {
        check.sentence("A call that fails changes nothing, and matches changes nothing at all");
        PatternDialects x = Check.machineOf(Check.GLOB, "a*");
        String before = Check.everythingOf(x);
        x.matches(0);
        x.matches(1);
        x.matches(-1);
        check.due("everything", Check.everythingOf(x), before);
    }
}
