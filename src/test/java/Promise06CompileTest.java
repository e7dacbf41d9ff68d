/** Promise 6 beside the grammars: its failures and their order, what stays, and how big a machine may be. */
public final class Promise06CompileTest {
    private static final String FORTY_POSITIONS = "c{9}c{9}c{9}c{9}c{4}";
    // 26 times c and then 32 sets of positions, one for each way that the last five letters can be; the beginning; none.
    private static final String SIXTY_STATES = "c{9}c{9}c{8}[ab]*a[ab]{4}";

    public static void main(String[] args) {
        Check check = new Check("Promise06CompileTest");
        becomesTheMachineOfASlot(check);
        theMachineBeforeIsGone(check);
        theTextStays(check);
        answersHowManyStates(check);
        badSlot(check);
        badDialect(check);
        anErrorAtAPlace(check);
        theFirstErrorCounts(check);
        thatSomethingDoesNotEnd(check);
        theTextsLength(check);
        thePatternIsTheWholeText(check);
        aJoinOfNone(check);
        moreThan40Positions(check);
        moreThan60States(check);
        theFailureNamedFirst(check);
        aCallThatFailsChangesNothing(check);
        check.end();
    }

    private static void becomesTheMachineOfASlot(Check check) {
        check.sentence("The text, as a pattern of a dialect, becomes the machine of a slot");
        PatternDialects x = new PatternDialects();
        for (int round = 1; round < 6; round++) {
            for (int slot = 0; slot < 4; slot++) {
                check.due("compile", Check.compile(x, slot, Check.GLOB, "a".repeat(slot + round)), slot + round + 2);
            }
            for (int slot = 0; slot < 4; slot++) {
                check.due("positions", x.positions(slot), slot + round);
                check.due("words", x.words(slot, slot + round), 1);
            }
        }
        Check.write(x, "_");
        long[] words = {1, 1, 95, 1};
        for (int dialect = 0; dialect < 4; dialect++) {
            check.due("compile(2, " + dialect + ")", x.compile(2, dialect), 3);
            check.due("words(2, 1)", x.words(2, 1), words[dialect]);
        }
    }

    private static void theMachineBeforeIsGone(Check check) {
        check.sentence("becomes the machine of a slot: of the one before nothing stays");
        String[] patterns = {"", "a", ".*", "[a-c]*b|d{3}", "\\w{2}[^\\d]?", "(ab|c{2,3}d)*e+", "[a-[a]]", SIXTY_STATES};
        for (String before : patterns) {
            for (String pattern : patterns) {
                PatternDialects x = new PatternDialects();
                Check.write(x, before);
                // Once more than there are slots, so that what is made aside is used too.
                for (int k = 0; k < 5; k++) {
                    x.compile(k % 4, Check.REGEX);
                }
                Check.compile(x, 2, Check.REGEX, pattern);
                PatternDialects y = Check.machineOf(Check.REGEX, pattern);
                check.due("states of " + pattern, x.states(2), y.states(0));
                check.due("kinds of " + pattern, x.kinds(2), y.kinds(0));
                check.due("matches of " + pattern, x.matches(2), y.matches(0));
                for (int n = 0; n < 6; n++) {
                    check.due("words of " + pattern, x.words(2, n), y.words(0, n));
                }
            }
        }
    }

    private static void theTextStays(Check check) {
        check.sentence("The text, which stays");
        PatternDialects x = new PatternDialects();
        for (String text : new String[] {"", "ab", "(", "a".repeat(48)}) {
            Check.write(x, text);
            for (int dialect = 0; dialect < 4; dialect++) {
                x.compile(0, dialect);
                check.due("the text", Check.textOf(x), text);
            }
        }
    }

    private static void answersHowManyStates(Check check) {
        check.sentence("answers how many states it has");
        PatternDialects x = new PatternDialects();
        for (String pattern : new String[] {"", "a", "a*", "(a|b)*abb", "[a-[a]]", SIXTY_STATES}) {
            int answer = Check.compile(x, 3, Check.REGEX, pattern);
            check.due("compile of " + pattern, answer, x.states(3));
        }
        check.due("compile of (a|b)*abb", Check.compile(x, 0, Check.REGEX, "(a|b)*abb"), 6);
    }

    private static void badSlot(Check check) {
        check.sentence("BAD when slot is not 0 .. 3");
        PatternDialects x = new PatternDialects();
        Check.write(x, "a");
        for (int slot : new int[] {-1, 4, 5, Integer.MIN_VALUE, Integer.MAX_VALUE}) {
            for (int dialect = 0; dialect < 4; dialect++) {
                check.due("compile(" + slot + ", " + dialect + ")", x.compile(slot, dialect), PatternDialects.BAD);
            }
        }
        for (int slot = 0; slot < 4; slot++) {
            check.due("compile(" + slot + ", 0)", x.compile(slot, 0), 3);
        }
    }

    private static void badDialect(Check check) {
        check.sentence("BAD when dialect is not 0 .. 3");
        PatternDialects x = new PatternDialects();
        Check.write(x, "a");
        for (int dialect : new int[] {-1, 4, 5, Integer.MIN_VALUE, Integer.MAX_VALUE}) {
            for (int slot = 0; slot < 4; slot++) {
                check.due("compile(" + slot + ", " + dialect + ")", x.compile(slot, dialect), PatternDialects.BAD);
                check.due("states(" + slot + ")", x.states(slot), PatternDialects.BAD);
            }
        }
        for (int dialect = 0; dialect < 4; dialect++) {
            check.due("compile(0, " + dialect + ")", x.compile(0, dialect), 3);
        }
    }

    private static void anErrorAtAPlace(Check check) {
        check.sentence("for an error at place p: -1 - p");
        for (int p = 0; p < 48; p++) {
            String before = "a".repeat(p);
            check.dueError(Check.GLOB, before + "\\", p);
            check.dueError(Check.PATH, before + "{", p);
            check.dueError(Check.LIKE, before + "\\", p);
            check.dueError(Check.REGEX, before + ")", p);
        }
    }

    private static void theFirstErrorCounts(Check check) {
        check.sentence("It is read from the left; the first error that is met counts");
        check.dueError(Check.GLOB, "[z-a]\\", 3);
        check.dueError(Check.GLOB, "[z-a][z-a]", 3);
        check.dueError(Check.PATH, "[z-a]{", 3);
        check.dueError(Check.PATH, "{{{{[z-a]", 3);
        check.dueError(Check.LIKE, "\\a\\b", 0);
        check.dueError(Check.REGEX, "a)]", 1);
        check.dueError(Check.REGEX, "a])", 1);
        check.dueError(Check.REGEX, "\\q[z-a]", 0);
        check.dueError(Check.REGEX, "[z-a]\\q", 3);
        check.dueError(Check.REGEX, "x{3,2}**", 1);
    }

    private static void thatSomethingDoesNotEnd(Check check) {
        check.sentence("that something does not end is met where its end ought to be");
        check.dueError(Check.GLOB, "[a[z-b", 5);
        check.dueError(Check.PATH, "{a,[z-b]", 6);
        check.dueError(Check.PATH, "{a,{b}\\", 6);
        check.dueError(Check.REGEX, "(a**", 3);
        check.dueError(Check.REGEX, "(a]", 2);
        check.dueError(Check.REGEX, "(a(b\\q", 4);
        check.dueError(Check.REGEX, "([z-a", 4);
        check.dueError(Check.REGEX, "[a(z-b", 5);
    }

    private static void theTextsLength(Check check) {
        check.sentence("or the text's length when it ends too early");
        check.dueError(Check.REGEX, "[", 1);
        check.dueError(Check.REGEX, "[a", 2);
        check.dueError(Check.REGEX, "[a-", 3);
        check.dueError(Check.REGEX, "ab[^", 4);
        check.dueError(Check.REGEX, "a".repeat(47) + "[", 48);
        check.dueError(Check.REGEX, "a".repeat(40) + "[abcdefg", 48);
    }

    private static void thePatternIsTheWholeText(Check check) {
        check.sentence("A pattern is the whole text");
        for (int dialect = 0; dialect < 4; dialect++) {
            check.dueMatches(dialect, "", true, "");
            check.dueMatches(dialect, "", false, "a", " ");
            check.dueMatches(dialect, " a ", true, " a ");
            check.dueMatches(dialect, " a ", false, "a");
        }
        check.dueStates(Check.PATH, "**".repeat(24), 2);
        check.dueMatches(Check.REGEX, "a{0}".repeat(11) + "a{2}", true, "aa");
        check.dueMatches(Check.REGEX, "a{0}".repeat(11) + "a{2}", false, "", "a", "aaa");
        check.dueMatches(Check.PATH, "{a,".repeat(3) + "bcdefghijklmnopqrstuvwxyzabcdefghijk" + "}}}", true, "a");
    }

    private static void aJoinOfNone(Check check) {
        check.sentence("a JOIN, also of none (whose one word is empty)");
        for (int dialect = 0; dialect < 4; dialect++) {
            PatternDialects x = new PatternDialects();
            check.due("compile of nothing", x.compile(0, dialect), 2);
            check.due("positions", x.positions(0), 0);
            check.due("words(0, 0)", x.words(0, 0), 1);
            check.due("words(0, 1)", x.words(0, 1), 0);
        }
        check.dueStates(Check.PATH, "{}".repeat(24), 2);
        check.dueStates(Check.REGEX, "(|)".repeat(16), 2);
        check.dueStates(Check.REGEX, "((((|||||||||||||||){9}){9}){9}){9}", 2);
    }

    private static void moreThan40Positions(Check check) {
        check.sentence("It is TOO BIG when there are more than 40 positions");
        check.dueStates(Check.REGEX, FORTY_POSITIONS, 42);
        dueTooBig(check, Check.REGEX, FORTY_POSITIONS + "c");
        check.dueStates(Check.REGEX, "c{9}c{9}c{9}c{9}c{3,}", 42);
        dueTooBig(check, Check.REGEX, "c{9}c{9}c{9}c{9}c{4,}");
        check.dueStates(Check.REGEX, "(c{0,8}){5}", 42);
        dueTooBig(check, Check.REGEX, "(c{0,8}){5}c");
        dueTooBig(check, Check.REGEX, "((((a{9,}){9,}){9,}){9,}){9,}");
        check.dueStates(Check.REGEX, "((((a{9}){9}){9}){9}){0}", 2);
        int[] plain = {Check.GLOB, Check.PATH, Check.LIKE, Check.REGEX};
        for (int dialect : plain) {
            check.dueStates(dialect, "a".repeat(40), 42);
            dueTooBig(check, dialect, "a".repeat(41));
            dueTooBig(check, dialect, "a".repeat(48));
        }
        check.dueStates(Check.GLOB, "*".repeat(40), 2);
        dueTooBig(check, Check.GLOB, "*".repeat(41));
        check.dueStates(Check.LIKE, "%".repeat(40), 2);
        dueTooBig(check, Check.LIKE, "%".repeat(41));
        dueTooBig(check, Check.REGEX, "[a-[a]]{9}".repeat(4) + "bcdef");
    }

    private static void moreThan60States(Check check) {
        check.sentence("It is TOO BIG when there are more than 60 states");
        check.dueStates(Check.REGEX, SIXTY_STATES, 60);
        dueTooBig(check, Check.REGEX, "c" + SIXTY_STATES);
        dueTooBig(check, Check.REGEX, SIXTY_STATES + "c");
        check.dueStates(Check.REGEX, "[ab]*a[ab]{4}", 34);
        dueTooBig(check, Check.REGEX, "[ab]*a[ab]{5}");
        check.dueStates(Check.GLOB, "*a????", 33);
        dueTooBig(check, Check.GLOB, "*a?????");
    }

    private static void dueTooBig(Check check, int dialect, String pattern) {
        PatternDialects x = new PatternDialects();
        check.due("compile of " + pattern, Check.compile(x, 0, dialect, pattern), PatternDialects.TOO_BIG);
        check.due("states(0)", x.states(0), PatternDialects.BAD);
    }

    private static void theFailureNamedFirst(Check check) {
        check.sentence("where several failures that a call names fit, the one named first is the answer");
        PatternDialects x = new PatternDialects();
        check.due("BAD slot, an error", Check.compile(x, 4, Check.REGEX, "("), PatternDialects.BAD);
        check.due("BAD dialect, an error", Check.compile(x, 0, 4, "("), PatternDialects.BAD);
        check.due("BAD slot, too big", Check.compile(x, -1, Check.GLOB, "a".repeat(41)), PatternDialects.BAD);
        check.due("BAD dialect, too big", Check.compile(x, 0, -1, "a".repeat(41)), PatternDialects.BAD);
        check.due("an error, too big", Check.compile(x, 0, Check.GLOB, "a".repeat(47) + "\\"), -48);
        check.due("an error, too big", Check.compile(x, 0, Check.PATH, "a".repeat(47) + "{"), -48);
        check.due("an error, too big", Check.compile(x, 0, Check.LIKE, "a".repeat(47) + "\\"), -48);
        check.due("an error, too big", Check.compile(x, 0, Check.REGEX, "(.{9}){9}]"), -10);
        check.due("an error, too many states", Check.compile(x, 0, Check.REGEX, "[ab]*a[ab]{5})"), -14);
    }

    private static void aCallThatFailsChangesNothing(Check check) {
        check.sentence("A call that fails changes nothing");
        String[] failing = {"(", "[z-a]", "(.{9}){9}", "[ab]*a[ab]{5}", "a".repeat(48), "[a-[b-[c-[d]]]]", "(a|b{2}"};
        for (String pattern : failing) {
            PatternDialects x = twoMachines();
            Check.write(x, pattern);
            String before = Check.everythingOf(x);
            for (int slot = 0; slot < 4; slot++) {
                check.due("compile of " + pattern, x.compile(slot, Check.REGEX) < 0, true);
            }
            check.due("everything behind " + pattern, Check.everythingOf(x), before);
            check.due("compile behind a failure", Check.compile(x, 2, Check.REGEX, "a"), 3);
        }
        PatternDialects x = twoMachines();
        check.due("compile(4, 0)", x.compile(4, 0), PatternDialects.BAD);
        check.due("compile(0, 4)", x.compile(0, 4), PatternDialects.BAD);
        check.due("states(0)", x.states(0), 4);
        check.due("states(1)", x.states(1), PatternDialects.BAD);
        check.due("states(2)", x.states(2), 5);
        check.due("positions(2)", x.positions(2), 3);
    }

    private static PatternDialects twoMachines() {
        PatternDialects x = Check.machineOf(Check.GLOB, "x*");
        Check.compile(x, 2, Check.REGEX, "ab|c");
        return x;
    }
}
