/** Promise 4: length. */
public final class Promise04LengthTest {
    public static void main(String[] args) {
        Check check = new Check("Promise04LengthTest");
        theNumberOfCharacters(check);
        refusedCharactersDoNotCount(check);
        behindWitness(check);
        check.end();
    }

    private static void theNumberOfCharacters(Check check) {
        check.sentence("The number of characters of the text: 0 to 48");
        PatternDialects x = new PatternDialects();
        for (int k = 0; k < 48; k++) {
            check.due("length()", x.length(), k);
            x.type('a');
        }
        check.due("length() of a full text", x.length(), 48);
        x.wipe();
        check.due("length() of a wiped text", x.length(), 0);
    }

    private static void refusedCharactersDoNotCount(Check check) {
        check.sentence("The number of characters of the text: without those that were refused");
        PatternDialects x = new PatternDialects();
        x.type(31);
        x.type(127);
        check.due("length()", x.length(), 0);
        Check.write(x, "a".repeat(48));
        x.type('a');
        check.due("length() of a full text", x.length(), 48);
    }

    private static void behindWitness(Check check) {
        check.sentence("The number of characters of the text: that of a witness too");
        PatternDialects x = Check.machinesOf("a{7}|b{9}", "a{7}");
        check.due("length() behind compile", x.length(), 4);
        x.witness(0, 1);
        check.due("length() behind witness", x.length(), 9);
        x.witness(1, 0);
        check.due("length() behind a witness that is not", x.length(), 9);
    }
}
