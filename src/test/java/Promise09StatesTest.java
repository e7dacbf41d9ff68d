/** Promise 9: states. */
public final class Promise09StatesTest {
    private static final int[] WRONG_SLOTS = {-1, 4, 5, Integer.MIN_VALUE, Integer.MAX_VALUE};

    public static void main(String[] args) {
        Check check = new Check("Promise09StatesTest");
        theBeginningIncluded(check);
        noneAtAll(check);
        statesBySets(check);
        followOfRepeated(check);
        asIfNoSetWereEmpty(check);
        leastAndMost(check);
        badSlot(check);
        emptySlot(check);
        check.end();
    }

    private static void theBeginningIncluded(Check check) {
        check.sentence("The machine's STATES are all that are come to by reading any texts, the beginning included");
        check.dueStates(Check.GLOB, "*", 2);
        check.dueStates(Check.GLOB, "a", 3);
        check.dueStates(Check.GLOB, "a*b?c", 9);
        check.dueStates(Check.LIKE, "%_", 2);
        check.dueStates(Check.PATH, "*", 3);
        check.dueStates(Check.REGEX, "(a|b)*abb", 6);
        check.dueStates(Check.REGEX, "(ab|c{2,3}d)*e+", 10);
        check.dueStates(Check.REGEX, ".*", 2);
    }

    private static void noneAtAll(Check check) {
        check.sentence("leads to the positions (perhaps to none at all)");
        // Nothing is a state of its own, not the beginning.
        check.dueStates(Check.GLOB, "", 2);
        check.dueStates(Check.REGEX, "a{0}", 2);
        check.dueStates(Check.GLOB, "?", 3);
        check.dueStates(Check.GLOB, "[! -~]", 2);
        check.dueStates(Check.REGEX, "x\\s", 4);
        check.dueStates(Check.REGEX, "x~", 4);
    }

    private static void statesBySets(Check check) {
        check.sentence("A STATE is the beginning, or a set of positions");
        check.dueStates(Check.PATH, "{a,b}", 4);
        check.dueStates(Check.PATH, "{a,a}", 3);
        check.dueStates(Check.GLOB, "**", 2);
        check.dueStates(Check.REGEX, "(a|b)*", 4);
        check.dueStates(Check.REGEX, "[ab]*", 3);
    }

    private static void followOfRepeated(Check check) {
        check.sentence("x times n to m ..., x times n and more (the last one repeated, or not there)");
        check.dueStates(Check.REGEX, "a?", 3);
        check.dueStates(Check.REGEX, "a*", 3);
        check.dueStates(Check.REGEX, "a+", 4);
        check.dueStates(Check.REGEX, "a{0,}", 3);
        check.dueStates(Check.REGEX, "a{3}", 5);
        check.dueStates(Check.REGEX, "a{3,}", 6);
        check.dueStates(Check.REGEX, "a{2,5}", 7);
        check.dueStates(Check.REGEX, "(a?){9}", 11);
        check.dueStates(Check.REGEX, "(a{2}){2}", 6);
    }

    private static void asIfNoSetWereEmpty(Check check) {
        check.sentence("FIRST, LAST and FOLLOW(p) (as if no set were empty)");
        check.dueStates(Check.REGEX, "ab[c-[c]]", 4);
        check.dueStates(Check.REGEX, "[c-[c]]ab", 2);
        check.dueStates(Check.REGEX, "a[c-[c]]b", 3);
        check.dueStates(Check.REGEX, "a[c-[c]]*b", 4);
        check.dueStates(Check.PATH, "[/]*", 2);
        check.dueMatches(Check.REGEX, "ab[c-[c]]*", true, "ab");
        check.dueMatches(Check.REGEX, "ab[c-[c]]", false, "ab");
    }

    private static void leastAndMost(Check check) {
        check.sentence("How many states a slot's machine has: from 2 to 60");
        check.dueStates(Check.PATH, "", 2);
        check.dueStates(Check.REGEX, "c{9}c{9}c{8}[ab]*a[ab]{4}", 60);
        check.dueStates(Check.GLOB, "a".repeat(40), 42);
    }

    private static void badSlot(Check check) {
        check.sentence("BAD: a number is not as said");
        PatternDialects x = Check.machineOf(Check.GLOB, "*");
        for (int slot : WRONG_SLOTS) {
            check.due("states(" + slot + ")", x.states(slot), PatternDialects.BAD);
        }
        check.due("states(0)", x.states(0), 2);
    }

    private static void emptySlot(Check check) {
        check.sentence("BAD: a slot is empty");
        PatternDialects x = new PatternDialects();
        Check.compile(x, 0, Check.REGEX, "");
        check.due("states(0)", x.states(0), 2);
        for (int slot = 1; slot < 4; slot++) {
            check.due("states(" + slot + ")", x.states(slot), PatternDialects.BAD);
        }
        Check.compile(x, 1, Check.REGEX, "(");
        check.due("states(1) behind an error", x.states(1), PatternDialects.BAD);
        Check.compile(x, 2, Check.REGEX, "a".repeat(41));
        check.due("states(2) behind TOO_BIG", x.states(2), PatternDialects.BAD);
    }
}
