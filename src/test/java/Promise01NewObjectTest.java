/** Promise 1: a new object. */
public final class Promise01NewObjectTest {
    public static void main(String[] args) {
        Check check = new Check("Promise01NewObjectTest");
        anEmptyText(check);
        allSlotsEmpty(check);
        objectsAreApart(check);
        theLast512thCall(check);
        check.end();
    }

    private static void anEmptyText(Check check) {
        check.sentence("An empty text");
        PatternDialects x = new PatternDialects();
        check.due("length()", x.length(), 0);
        check.due("at(0)", x.at(0), PatternDialects.NONE);
        check.due("compile of nothing", x.compile(0, Check.REGEX), 2);
        check.due("the empty word", x.matches(0), 1);
    }

    private static void allSlotsEmpty(Check check) {
        check.sentence("all slots empty");
        PatternDialects x = new PatternDialects();
        for (int slot = 0; slot < 4; slot++) {
            check.due("matches", x.matches(slot), PatternDialects.BAD);
            check.due("positions", x.positions(slot), PatternDialects.BAD);
            check.due("states", x.states(slot), PatternDialects.BAD);
            check.due("kinds", x.kinds(slot), PatternDialects.BAD);
            check.due("words", x.words(slot, 0), PatternDialects.BAD);
            for (int other = 0; other < 4; other++) {
                check.due("within", x.within(slot, other), PatternDialects.BAD);
                check.due("witness", x.witness(slot, other), PatternDialects.BAD);
            }
        }
    }

    private static void objectsAreApart(Check check) {
        check.sentence("An empty text, all slots empty: also when another object has some");
        PatternDialects full = Check.machineOf(Check.GLOB, "ab");
        PatternDialects x = new PatternDialects();
        check.due("length()", x.length(), 0);
        check.due("states(0)", x.states(0), PatternDialects.BAD);
        Check.compile(x, 0, Check.GLOB, "xyz");
        check.due("states(0) of the other", full.states(0), 4);
        check.due("text of the other", Check.textOf(full), "ab");
    }

    private static void theLast512thCall(Check check) {
        check.sentence("An object is used for at most 512 calls after it has been made");
        PatternDialects x = new PatternDialects();
        x.type('a');
        for (int call = 2; call <= 511; call++) {
            check.due("compile as call " + call, x.compile(call % 4, call / 4 % 4), 3);
        }
        check.due("compile as call 512", x.compile(0, Check.REGEX), 3);
    }
}
