/** Promise 6 beside the grammars: its failures and their order, what stays, and how big a machine may be. */
public final class CompileTest {
    private static final String FORTY_POSITIONS = "c{9}c{9}c{9}c{9}c{4}";
    private static final String SIXTY_STATES = "c{9}c{9}c{8}[ab]*a[ab]{4}";

    public static void main(String[] args) {
        Check check = new Check("CompileTest");
        badNumbers(check);
        limits(check);
        orderOfFailures(check);
        failuresChangeNothing(check);
        slotsAreApart(check);
        check.end();
    }

    private static void badNumbers(Check check) {
        int[] wrong = {-1, 4, 5, Integer.MIN_VALUE, Integer.MAX_VALUE};
        PatternDialects x = new PatternDialects();
        Check.write(x, "a");
        for (int number : wrong) {
            check.due("compile(" + number + ", 0)", x.compile(number, 0), PatternDialects.BAD);
            check.due("compile(0, " + number + ")", x.compile(0, number), PatternDialects.BAD);
        }
        check.due("states(0)", x.states(0), PatternDialects.BAD);
        for (int slot = 0; slot < 4; slot++) {
            for (int dialect = 0; dialect < 4; dialect++) {
                check.due("compile(" + slot + ", " + dialect + ")", x.compile(slot, dialect), 3);
            }
        }
    }

    private static void limits(Check check) {
        PatternDialects x = new PatternDialects();
        check.due("40 positions", Check.compile(x, 0, Check.REGEX, FORTY_POSITIONS), 42);
        check.due("41 positions", Check.compile(x, 0, Check.REGEX, FORTY_POSITIONS + "c"), PatternDialects.TOO_BIG);
        check.due("41 positions, and more", Check.compile(x, 0, Check.REGEX, "c{9}c{9}c{9}c{9}c{4,}"),
                PatternDialects.TOO_BIG);
        check.due("40 positions, and more", Check.compile(x, 0, Check.REGEX, "c{9}c{9}c{9}c{9}c{3,}"), 42);
        check.due("60 states", Check.compile(x, 0, Check.REGEX, SIXTY_STATES), 60);
        check.due("61 states", Check.compile(x, 0, Check.REGEX, "c" + SIXTY_STATES), PatternDialects.TOO_BIG);
        check.due("40 of GLOB", Check.compile(x, 0, Check.GLOB, "a".repeat(40)), 42);
        check.due("41 of GLOB", Check.compile(x, 0, Check.GLOB, "a".repeat(41)), PatternDialects.TOO_BIG);
        check.due("48 of LIKE", Check.compile(x, 0, Check.LIKE, "_".repeat(48)), PatternDialects.TOO_BIG);
        check.due("48 of PATH", Check.compile(x, 0, Check.PATH, "**".repeat(24)), 2);
        check.due("very many", Check.compile(x, 0, Check.REGEX, "((((a{9,}){9,}){9,}){9,}){9,}"),
                PatternDialects.TOO_BIG);
        check.due("very many none times", Check.compile(x, 0, Check.REGEX, "((((a{9}){9}){9}){9}){0}"), 2);
        check.due("nothing very often", Check.compile(x, 0, Check.REGEX, "((((|||||||||||||||){9}){9}){9}){9}"), 2);
        check.due("groups and branches alone", Check.compile(x, 0, Check.REGEX, "(|)".repeat(16)), 2);
        check.due("lists alone", Check.compile(x, 0, Check.PATH, "{}".repeat(24)), 2);
        check.due("40 stars", Check.compile(x, 0, Check.GLOB, "*".repeat(40)), 2);
        check.due("41 stars", Check.compile(x, 0, Check.GLOB, "*".repeat(41)), PatternDialects.TOO_BIG);
    }

    private static void orderOfFailures(Check check) {
        PatternDialects x = new PatternDialects();
        check.due("BAD before an error", Check.compile(x, 4, Check.REGEX, "("), PatternDialects.BAD);
        check.due("BAD before too big", Check.compile(x, -1, Check.GLOB, "a".repeat(41)), PatternDialects.BAD);
        check.due("an error before too big", Check.compile(x, 0, Check.GLOB, "a".repeat(47) + "\\"), -48);
        check.due("an error before too big", Check.compile(x, 0, Check.REGEX, "(.{9}){9}]"), -10);
        check.due("the first error", Check.compile(x, 0, Check.REGEX, "a)]"), -2);
    }

    private static void failuresChangeNothing(Check check) {
        PatternDialects x = new PatternDialects();
        check.due("compile", Check.compile(x, 2, Check.REGEX, "ab|c"), 5);
        String[] failing = {"(", "[z-a]", "(.{9}){9}", "[ab]*a[ab]{5}"};
        for (String pattern : failing) {
            check.due("compile of " + pattern, Check.compile(x, 2, Check.REGEX, pattern) < 0, true);
            check.due("the text stays", Check.textOf(x), pattern);
            check.due("states stay", x.states(2), 5);
            check.due("positions stay", x.positions(2), 3);
            check.due("words stay", x.words(2, 2), 1);
            check.due("other slots stay empty", x.states(1), PatternDialects.BAD);
        }
        check.due("too big in an empty slot", Check.compile(x, 1, Check.REGEX, "[ab]*a[ab]{5}"), PatternDialects.TOO_BIG);
        check.due("states of that", x.states(1), PatternDialects.BAD);
        check.due("compile behind failures", Check.compile(x, 2, Check.REGEX, "a"), 3);
        check.due("the text stays", Check.textOf(x), "a");
    }

    private static void slotsAreApart(Check check) {
        PatternDialects x = new PatternDialects();
        for (int round = 1; round < 20; round++) {
            for (int slot = 0; slot < 4; slot++) {
                check.due("compile", Check.compile(x, slot, Check.GLOB, "a".repeat(slot + round)), slot + round + 2);
            }
            for (int slot = 0; slot < 4; slot++) {
                check.due("positions", x.positions(slot), slot + round);
                check.due("words", x.words(slot, slot + round), 1);
            }
        }
    }
}
