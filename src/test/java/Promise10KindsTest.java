/** Promise 10: kinds. */
public final class Promise10KindsTest {
    private static final int[] WRONG_SLOTS = {-1, 4, 5, Integer.MIN_VALUE, Integer.MAX_VALUE};

    public static void main(String[] args) {
        Check check = new Check("Promise10KindsTest");
        alikeCountOnce(check);
        oneKind(check);
        allKindsDiffer(check);
        toldApartByOneText(check);
        ofTheBiggest(check);
        badSlot(check);
        emptySlot(check);
        changesNothing(check);
        check.end();
    }

    private static void alikeCountOnce(Check check) {
        check.sentence("How many states it has when those that are alike count once");
        check.dueKinds(Check.GLOB, "a*b?c", 8);
        check.dueKinds(Check.PATH, "{a,b}", 3);
        check.dueKinds(Check.PATH, "*", 2);
        check.dueKinds(Check.REGEX, "a*", 2);
        check.dueKinds(Check.REGEX, "a+", 3);
        check.dueKinds(Check.REGEX, "a{3,}", 5);
        check.dueKinds(Check.REGEX, "(a|b)*", 2);
        check.dueKinds(Check.REGEX, "(a|b)*abb", 5);
        check.dueKinds(Check.REGEX, "(ab|c{2,3}d)*e+", 7);
    }

    private static void oneKind(Check check) {
        check.sentence("Two states are ALIKE when the same texts lead to states that accept: all of them, or none");
        check.dueKinds(Check.GLOB, "*", 1);
        check.dueKinds(Check.GLOB, "**", 1);
        check.dueKinds(Check.REGEX, ".*", 1);
        check.dueKinds(Check.REGEX, "(.|a)*", 1);
        check.dueKinds(Check.GLOB, "[! -~]", 1);
        check.dueKinds(Check.REGEX, "ab[c-[c]]", 1);
        check.dueKinds(Check.REGEX, "(a|b)+[c-[c]]d", 1);
    }

    private static void allKindsDiffer(Check check) {
        check.sentence("How many states it has when no two are alike");
        check.dueKinds(Check.GLOB, "", 2);
        check.dueKinds(Check.GLOB, "a", 3);
        check.dueKinds(Check.REGEX, "a?", 3);
        check.dueKinds(Check.REGEX, "a{2,5}", 7);
        check.dueKinds(Check.REGEX, "(a?){9}", 11);
        check.dueKinds(Check.GLOB, "a".repeat(40), 42);
    }

    private static void toldApartByOneText(Check check) {
        check.sentence("Two states are ALIKE when the same texts lead from them to states that accept");
        // Only the first or the last of all characters tells the two middle states apart.
        check.dueKinds(Check.REGEX, "a.|b[!-~]", 5);
        check.dueKinds(Check.REGEX, "a.|b[ -}]", 5);
        check.dueKinds(Check.REGEX, "a.|b[ -~]", 4);
        // Only a text of 17 characters does.
        check.dueKinds(Check.REGEX, "ac{9}c{8}|bc{9}c{7}d", 37);
        check.dueKinds(Check.REGEX, "ac{9}c{8}|bc{9}c{8}", 20);
    }

    private static void ofTheBiggest(Check check) {
        check.sentence("How many states it has when those that are alike count once: of 60");
        // What is behind the last c begins the rest as a b does, and only these two are alike.
        check.dueKinds(Check.REGEX, "c{9}c{9}c{8}[ab]*a[ab]{4}", 59);
        check.dueKinds(Check.REGEX, "[ab]*a[ab]{4}", 33);
    }

    private static void badSlot(Check check) {
        check.sentence("BAD: a number is not as said");
        PatternDialects x = Check.machineOf(Check.GLOB, "*");
        for (int slot : WRONG_SLOTS) {
            check.due("kinds(" + slot + ")", x.kinds(slot), PatternDialects.BAD);
        }
    }

    private static void emptySlot(Check check) {
        check.sentence("BAD: a slot is empty");
        PatternDialects x = new PatternDialects();
        Check.compile(x, 1, Check.REGEX, "");
        check.due("kinds(0)", x.kinds(0), PatternDialects.BAD);
        check.due("kinds(1)", x.kinds(1), 2);
        check.due("kinds(2)", x.kinds(2), PatternDialects.BAD);
        check.due("kinds(3)", x.kinds(3), PatternDialects.BAD);
    }

    private static void changesNothing(Check check) {
        check.sentence("A call that fails changes nothing, and kinds changes nothing at all");
        PatternDialects x = Check.machinesOf("(a|b)*abb", "[ab]*[ab]bb");
        String before = Check.everythingOf(x);
        x.kinds(0);
        x.kinds(1);
        x.kinds(2);
        x.kinds(4);
        check.due("everything", Check.everythingOf(x), before);
        check.due("states stay as they are", x.states(0), 6);
    }
}
