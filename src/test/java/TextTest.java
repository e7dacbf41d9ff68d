/** Promises 1 to 5: a new object, and the text. */
public final class TextTest {
    public static void main(String[] args) {
        Check check = new Check("TextTest");
        newObject(check);
        characters(check);
        fullText(check);
        check.end();
    }

    private static void newObject(Check check) {
        PatternDialects x = new PatternDialects();
        check.due("length()", x.length(), 0);
        check.due("at(0)", x.at(0), PatternDialects.NONE);
        for (int slot = -1; slot <= 4; slot++) {
            check.due("matches", x.matches(slot), PatternDialects.BAD);
            check.due("positions", x.positions(slot), PatternDialects.BAD);
            check.due("states", x.states(slot), PatternDialects.BAD);
            check.due("kinds", x.kinds(slot), PatternDialects.BAD);
            check.due("within", x.within(slot, slot), PatternDialects.BAD);
            check.due("witness", x.witness(slot, slot), PatternDialects.BAD);
            check.due("words", x.words(slot, 0), PatternDialects.BAD);
        }
    }

    private static void characters(Check check) {
        int[] wrong = {31, 127, 0, -1, 128, 256 + 97, Integer.MIN_VALUE, Integer.MAX_VALUE, 65536 + 97};
        PatternDialects x = new PatternDialects();
        for (int c : wrong) {
            check.due("type(" + c + ")", x.type(c), false);
        }
        check.due("length()", x.length(), 0);
        check.due("type(32)", x.type(32), true);
        check.due("type(126)", x.type(126), true);
        check.due("type(97)", x.type(97), true);
        check.due("length()", x.length(), 3);
        check.due("at(0)", x.at(0), 32);
        check.due("at(1)", x.at(1), 126);
        check.due("at(2)", x.at(2), 97);
        check.due("at(3)", x.at(3), PatternDialects.NONE);
        check.due("at(-1)", x.at(-1), PatternDialects.NONE);
        check.due("at(least)", x.at(Integer.MIN_VALUE), PatternDialects.NONE);
        check.due("at(most)", x.at(Integer.MAX_VALUE), PatternDialects.NONE);
        x.wipe();
        check.due("length() of a wiped text", x.length(), 0);
        check.due("at(0) of a wiped text", x.at(0), PatternDialects.NONE);
        check.due("type(98)", x.type(98), true);
        check.due("at(0)", x.at(0), 98);
        check.due("at(1) of an old text", x.at(1), PatternDialects.NONE);
    }

    private static void fullText(Check check) {
        PatternDialects x = new PatternDialects();
        for (int k = 0; k < 48; k++) {
            check.due("type " + k, x.type(40 + k), true);
        }
        check.due("type of a 49th", x.type(40), false);
        check.due("length()", x.length(), 48);
        check.due("at(47)", x.at(47), 87);
        check.due("at(48)", x.at(48), PatternDialects.NONE);
        x.wipe();
        check.due("type behind wipe", x.type(40), true);
        check.due("length()", x.length(), 1);
    }
}
