/** Promise 8: positions. */
public final class Promise08PositionsTest {
    private static final int[] WRONG_SLOTS = {-1, 4, 5, Integer.MIN_VALUE, Integer.MAX_VALUE};

    public static void main(String[] args) {
        Check check = new Check("Promise08PositionsTest");
        itsSets(check);
        emptySetsToo(check);
        timesNToM(check);
        timesNAndMore(check);
        noneAndForty(check);
        badSlot(check);
        emptySlot(check);
        check.end();
    }

    private static void itsSets(Check check) {
        check.sentence("The POSITIONS of an expression are its sets");
        check.duePositions(Check.GLOB, "a*b?c", 5);
        check.duePositions(Check.GLOB, "[a-z]\\*", 2);
        check.duePositions(Check.PATH, "{a,bc}d", 4);
        check.duePositions(Check.PATH, "***", 2);
        check.duePositions(Check.LIKE, "a\\%_%", 4);
        check.duePositions(Check.REGEX, "[a-z-[aeiou]]\\d.", 3);
        check.duePositions(Check.REGEX, "a|a|(a)", 3);
    }

    private static void emptySetsToo(Check check) {
        check.sentence("The POSITIONS of an expression are its sets: empty ones too");
        check.duePositions(Check.GLOB, "[! -~]", 1);
        check.duePositions(Check.PATH, "[/]a[/]", 3);
        check.duePositions(Check.REGEX, "[a-[a]]*", 1);
    }

    private static void timesNToM(Check check) {
        check.sentence("in x times n to m, x is there m times");
        check.duePositions(Check.REGEX, "a{0}", 0);
        check.duePositions(Check.REGEX, "a{0,0}", 0);
        check.duePositions(Check.REGEX, "a{0}b", 1);
        check.duePositions(Check.REGEX, "a?", 1);
        check.duePositions(Check.REGEX, "a{1}", 1);
        check.duePositions(Check.REGEX, "a{3}", 3);
        check.duePositions(Check.REGEX, "a{0,3}", 3);
        check.duePositions(Check.REGEX, "a{2,5}", 5);
        check.duePositions(Check.REGEX, "a{9}", 9);
        check.duePositions(Check.REGEX, "(ab){0,2}", 4);
        check.duePositions(Check.REGEX, "(a{2}b){3}", 9);
        check.duePositions(Check.REGEX, "((a{9}){9}b){0}", 0);
    }

    private static void timesNAndMore(Check check) {
        check.sentence("in x times n and more n + 1 times");
        check.duePositions(Check.REGEX, "a*", 1);
        check.duePositions(Check.REGEX, "a{0,}", 1);
        check.duePositions(Check.REGEX, "a+", 2);
        check.duePositions(Check.REGEX, "a{1,}", 2);
        check.duePositions(Check.REGEX, "a{3,}", 4);
        check.duePositions(Check.REGEX, "a{9,}", 10);
        check.duePositions(Check.REGEX, "(ab+)+", 6);
        check.duePositions(Check.REGEX, "(a*)*", 1);
    }

    private static void noneAndForty(Check check) {
        check.sentence("How many positions a slot's machine has: from 0 to 40");
        for (int dialect = 0; dialect < 4; dialect++) {
            check.duePositions(dialect, "", 0);
            check.duePositions(dialect, "a".repeat(40), 40);
        }
        check.duePositions(Check.PATH, "{,,}{}", 0);
        check.duePositions(Check.REGEX, "(|)*", 0);
        check.duePositions(Check.REGEX, "(a{8}){5}", 40);
        check.duePositions(Check.REGEX, "(a{3,}){9,}", 40);
    }

    private static void badSlot(Check check) {
        check.sentence("BAD: a number is not as said");
        PatternDialects x = Check.machineOf(Check.GLOB, "*");
        for (int slot : WRONG_SLOTS) {
            check.due("positions(" + slot + ")", x.positions(slot), PatternDialects.BAD);
        }
        check.due("positions(0)", x.positions(0), 1);
    }

    private static void emptySlot(Check check) {
        check.sentence("BAD: a slot is empty");
        PatternDialects x = new PatternDialects();
        Check.compile(x, 3, Check.REGEX, "");
        for (int slot = 0; slot < 3; slot++) {
            check.due("positions(" + slot + ")", x.positions(slot), PatternDialects.BAD);
        }
        check.due("positions(3)", x.positions(3), 0);
    }
}
