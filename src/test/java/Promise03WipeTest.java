/** Promise 3: wipe. */
public final class Promise03WipeTest {
    public static void main(String[] args) {
        Check check = new Check("Promise03WipeTest");
        theTextBecomesEmpty(check);
        anEmptyTextStaysEmpty(check);
        aFullTextBecomesEmpty(check);
        slotsStay(check);
        check.end();
    }

    private static void theTextBecomesEmpty(Check check) {
        check.sentence("The text becomes empty");
        PatternDialects x = new PatternDialects();
        Check.write(x, "abc");
        x.wipe();
        check.due("length()", x.length(), 0);
        check.due("at(0)", x.at(0), PatternDialects.NONE);
        x.type('z');
        check.due("length()", x.length(), 1);
        check.due("at(0)", x.at(0), 'z');
        check.due("at(1), where b was", x.at(1), PatternDialects.NONE);
        check.due("compile without what was there", x.compile(0, Check.GLOB), 3);
    }

    private static void anEmptyTextStaysEmpty(Check check) {
        check.sentence("The text becomes empty: also when it is");
        PatternDialects x = new PatternDialects();
        x.wipe();
        x.wipe();
        check.due("length()", x.length(), 0);
        check.due("type", x.type('a'), true);
        check.due("the text", Check.textOf(x), "a");
    }

    private static void aFullTextBecomesEmpty(Check check) {
        check.sentence("The text becomes empty: also when it is full");
        PatternDialects x = new PatternDialects();
        Check.write(x, "a".repeat(48));
        x.wipe();
        check.due("length()", x.length(), 0);
        check.due("at(47)", x.at(47), PatternDialects.NONE);
        for (int k = 0; k < 48; k++) {
            check.due("type", x.type('b'), true);
        }
        check.due("the text", Check.textOf(x), "b".repeat(48));
    }

    private static void slotsStay(Check check) {
        check.sentence("The text becomes empty: the slots stay");
        PatternDialects x = Check.machineOf(Check.GLOB, "ab");
        x.wipe();
        check.due("states(0)", x.states(0), 4);
        check.due("words(0, 2)", x.words(0, 2), 1);
    }
}
