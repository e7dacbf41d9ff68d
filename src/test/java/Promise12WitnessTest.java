/** Promise 12: witness. */
public final class Promise12WitnessTest {
    private static final int[] WRONG_SLOTS = {-1, 4, 5, Integer.MIN_VALUE, Integer.MAX_VALUE};
    // All counts of b but those of 16, 32, 48 ..
    private static final String NOT_OF_16 = "(b{8}b{8})*b(b{0,9}b{0,5})|";

    public static void main(String[] args) {
        Check check = new Check("Promise12WitnessTest");
        shortest(check);
        least(check);
        leastAndLastCharacters(check);
        theEmptyWord(check);
        noneWhenThereIsNone(check);
        ofFortyEight(check);
        tooBig(check);
        badSlot(check);
        emptySlot(check);
        failuresChangeNothing(check);
        theTextAlone(check);
        oneBehindTheOther(check);
        acrossDialects(check);
        check.end();
    }

    /** The word that is due, or null for NONE. */
    private static void dueWitness(Check check, String pattern, String other, String word) {
        PatternDialects x = Check.machinesOf(pattern, other);
        String call = "witness of " + pattern + " and " + other;
        check.due(call, x.witness(0, 1), word == null ? PatternDialects.NONE : word.length());
        check.due("the text of " + call, Check.textOf(x), word == null ? other : word);
        if (word != null) {
            check.due("matches(0)", x.matches(0), 1);
            check.due("matches(1)", x.matches(1), 0);
        }
    }

    private static void shortest(Check check) {
        check.sentence("The text becomes the least of the shortest words that are no words of the other one's");
        dueWitness(check, "a", "b", "a");
        dueWitness(check, "a|b", "a", "b");
        dueWitness(check, "ba|ab|~", "x", "~");
        dueWitness(check, "a{9}|z{8}", "x", "z".repeat(8));
        dueWitness(check, ".*", "(.?){3}", "    ");
        dueWitness(check, "(a|b)*abb", "(a|b)*babb", "abb");
        dueWitness(check, "(a|b)*", "(a|b)*a|", "b");
    }

    private static void least(Check check) {
        check.sentence("of two words of the same length the one with the lesser character at the first place where they differ");
        dueWitness(check, "ba|ab|c{3}", "x", "ab");
        dueWitness(check, "bz|ca", "x", "bz");
        dueWitness(check, "b[ab]|a[ab]", "ab|aa", "ba");
        dueWitness(check, "a{5}|b{4}a|b{5}", "a{5}", "bbbba");
        dueWitness(check, "[b-z][y-z]|~ ", "b[ -y]", "bz");
        dueWitness(check, "\\w\\w", "\\d\\w|A[0-8]", "A9");
    }

    private static void leastAndLastCharacters(Check check) {
        check.sentence("the lesser character: from 32 to 126");
        dueWitness(check, ".*", "", " ");
        dueWitness(check, ".*", "|\\s", "!");
        dueWitness(check, ".", "[ -}]", "~");
        dueWitness(check, "..", "[ -}].", "~ ");
        dueWitness(check, "..", "[ -}].|.[ -}]", "~~");
    }

    private static void theEmptyWord(Check check) {
        check.sentence("answers its length (0 for the empty word)");
        dueWitness(check, "a*", "a+", "");
        dueWitness(check, "", "a", "");
        dueWitness(check, "[a-[a]]*", "x", "");
        PatternDialects x = Check.machinesOf("|abc", "abc");
        check.due("witness(0, 1)", x.witness(0, 1), 0);
        check.due("length()", x.length(), 0);
        check.due("at(0)", x.at(0), PatternDialects.NONE);
        check.due("type behind it", x.type('q'), true);
        check.due("the text", Check.textOf(x), "q");
    }

    private static void noneWhenThereIsNone(Check check) {
        check.sentence("NONE when there is none");
        dueWitness(check, "a", "a|b", null);
        dueWitness(check, "a+", "a*", null);
        dueWitness(check, "(a|b)*", "(a*b*)*", null);
        dueWitness(check, "(a*b*)*", "(a|b)*", null);
        dueWitness(check, "[a-[a]]", "x", null);
        dueWitness(check, "", "[a-[a]]*", null);
        PatternDialects x = Check.machineOf(Check.GLOB, "a*");
        check.due("witness(0, 0)", x.witness(0, 0), PatternDialects.NONE);
        check.due("the text", Check.textOf(x), "a*");
    }

    private static void ofFortyEight(Check check) {
        check.sentence("TOO_BIG when it has more than 48 characters: not when it has 48");
        dueWitness(check, "(b{3})*", NOT_OF_16, "b".repeat(48));
        dueWitness(check, "(a{6})*", "(a{7})*a{1,6}|", "a".repeat(42));
    }

    private static void tooBig(Check check) {
        check.sentence("TOO_BIG when it has more than 48 characters");
        // A b in front of the 48: 49.
        dueTooBig(check, "b(b{3})*", "b(" + NOT_OF_16 + ")|b");
        dueTooBig(check, "(a{7})*", "(a{8})*a{1,7}|");
    }

    private static void dueTooBig(Check check, String pattern, String other) {
        PatternDialects x = Check.machinesOf(pattern, other);
        check.due("within of " + pattern, x.within(0, 1), 0);
        check.due("witness of " + pattern, x.witness(0, 1), PatternDialects.TOO_BIG);
        check.due("the text", Check.textOf(x), other);
    }

    private static void badSlot(Check check) {
        check.sentence("BAD: a number is not as said");
        PatternDialects x = Check.machineOf(Check.GLOB, "a");
        for (int slot : WRONG_SLOTS) {
            check.due("witness(0, " + slot + ")", x.witness(0, slot), PatternDialects.BAD);
            check.due("witness(" + slot + ", 0)", x.witness(slot, 0), PatternDialects.BAD);
            check.due("witness(" + slot + ", " + slot + ")", x.witness(slot, slot), PatternDialects.BAD);
        }
    }

    private static void emptySlot(Check check) {
        check.sentence("BAD: a slot is empty");
        PatternDialects x = Check.machineOf(Check.GLOB, "a");
        for (int slot = 1; slot < 4; slot++) {
            check.due("witness(0, " + slot + ")", x.witness(0, slot), PatternDialects.BAD);
            check.due("witness(" + slot + ", 0)", x.witness(slot, 0), PatternDialects.BAD);
            check.due("witness(" + slot + ", " + slot + ")", x.witness(slot, slot), PatternDialects.BAD);
        }
    }

    private static void failuresChangeNothing(Check check) {
        check.sentence("A call that fails changes nothing");
        PatternDialects x = Check.machinesOf("(a{7})*", "(a{8})*a{1,7}|");
        Check.write(x, "kept");
        String before = Check.everythingOf(x);
        check.due("BAD", x.witness(0, 2), PatternDialects.BAD);
        check.due("BAD", x.witness(4, 0), PatternDialects.BAD);
        check.due("NONE", x.witness(0, 0), PatternDialects.NONE);
        check.due("TOO_BIG", x.witness(0, 1), PatternDialects.TOO_BIG);
        check.due("everything", Check.everythingOf(x), before);
    }

    private static void theTextAlone(Check check) {
        check.sentence("The text becomes that word: the slots stay");
        PatternDialects x = Check.machinesOf("ab|c{9}", "ab");
        check.due("witness(0, 1)", x.witness(0, 1), 9);
        check.due("states(0)", x.states(0), 13);
        check.due("states(1)", x.states(1), 4);
        check.due("witness(0, 1), again", x.witness(0, 1), 9);
        check.due("the text", Check.textOf(x), "ccccccccc");
    }

    private static void oneBehindTheOther(Check check) {
        check.sentence("The text becomes the least of the shortest words: whatever was asked before");
        String[] patterns = {"z|y|[a-c]{2}", "[x-z]", "(a|b)*abb", "~|[ -b]*"};
        PatternDialects x = new PatternDialects();
        for (int slot = 0; slot < 4; slot++) {
            Check.compile(x, slot, Check.REGEX, patterns[slot]);
        }
        String[][] words = {{null, "aa", "y", "y"}, {"x", null, "x", "x"}, {"abb", "abb", null, null}, {"", "", "", null}};
        for (int one = 0; one < 4; one++) {
            for (int other = 0; other < 4; other++) {
                String word = words[one][other];
                Check.write(x, "kept");
                String call = "witness of " + patterns[one] + " and " + patterns[other];
                check.due(call, x.witness(one, other), word == null ? PatternDialects.NONE : word.length());
                check.due("the text of " + call, Check.textOf(x), word == null ? "kept" : word);
            }
        }
    }

    private static void acrossDialects(Check check) {
        check.sentence("words of a slot's pattern that are no words of the other one's: of any dialect's");
        PatternDialects x = Check.machineOf(Check.GLOB, "*");
        Check.compile(x, 1, Check.PATH, "*");
        Check.compile(x, 2, Check.LIKE, "%");
        Check.compile(x, 3, Check.REGEX, ".*");
        check.due("witness of GLOB and PATH", x.witness(0, 1), 1);
        check.due("its text", Check.textOf(x), "/");
        check.due("witness of PATH and GLOB", x.witness(1, 0), PatternDialects.NONE);
        check.due("witness of LIKE and REGEX", x.witness(2, 3), PatternDialects.NONE);
        check.due("witness of REGEX and PATH", x.witness(3, 1), 1);
    }
}
