/** Promise 2: type. */
public final class Promise02TypeTest {
    public static void main(String[] args) {
        Check check = new Check("Promise02TypeTest");
        appendsACharacter(check);
        falseWhenNotACharacter(check);
        everyCharacterCanBeTyped(check);
        falseWhen48AreThere(check);
        whatIsRefusedChangesNothing(check);
        check.end();
    }

    private static void appendsACharacter(Check check) {
        check.sentence("Appends a character to the text");
        PatternDialects x = new PatternDialects();
        check.due("type(97)", x.type(97), true);
        check.due("type(98)", x.type(98), true);
        check.due("type(98)", x.type(98), true);
        check.due("the text", Check.textOf(x), "abb");
        x.compile(0, Check.GLOB);
        check.due("type behind compile", x.type(99), true);
        check.due("the text", Check.textOf(x), "abbc");
        x.compile(1, Check.GLOB);
        x.witness(0, 1);
        check.due("type behind witness", x.type(100), true);
        check.due("the text", Check.textOf(x), "abbd");
    }

    private static void falseWhenNotACharacter(Check check) {
        check.sentence("false when it is not 32 .. 126");
        int[] wrong = {31, 127, 0, -1, -32, 128, 256 + 97, 65536 + 97, Integer.MIN_VALUE, Integer.MAX_VALUE};
        PatternDialects x = new PatternDialects();
        for (int c : wrong) {
            check.due("type(" + c + ")", x.type(c), false);
        }
        check.due("length()", x.length(), 0);
        check.due("type(32)", x.type(32), true);
        check.due("type(126)", x.type(126), true);
        check.due("the text", Check.textOf(x), " ~");
    }

    private static void everyCharacterCanBeTyped(Check check) {
        check.sentence("CHARACTERS are 32 .. 126");
        PatternDialects x = new PatternDialects();
        for (int c = 32; c <= 126; c++) {
            x.wipe();
            check.due("type(" + c + ")", x.type(c), true);
            check.due("at(0)", x.at(0), c);
        }
    }

    private static void falseWhen48AreThere(Check check) {
        check.sentence("false when 48 are there");
        PatternDialects x = new PatternDialects();
        for (int k = 0; k < 48; k++) {
            check.due("type as character " + k, x.type(40 + k), true);
        }
        check.due("type as character 48", x.type(40), false);
        check.due("type as character 48, again", x.type(126), false);
        check.due("length()", x.length(), 48);
        x.wipe();
        check.due("type behind wipe", x.type(40), true);
        check.due("length()", x.length(), 1);
    }

    private static void whatIsRefusedChangesNothing(Check check) {
        check.sentence("A call that fails changes nothing");
        PatternDialects x = Check.machineOf(Check.GLOB, "a*");
        check.due("type(31)", x.type(31), false);
        check.due("the text", Check.textOf(x), "a*");
        String full = "abcdefghijklmnopqrstuvwxyzABCDEFGHIJKLMNOPQRSTUV";
        Check.write(x, full);
        String before = Check.everythingOf(x);
        check.due("type when it is full", x.type('z'), false);
        check.due("type(127) when it is full", x.type(127), false);
        check.due("the text", Check.textOf(x), full);
        check.due("everything", Check.everythingOf(x), before);
    }
}
