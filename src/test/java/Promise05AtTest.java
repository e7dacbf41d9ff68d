/** Promise 5: at. */
public final class Promise05AtTest {
    public static void main(String[] args) {
        Check check = new Check("Promise05AtTest");
        characterK(check);
        noneWhenThereIsNone(check);
        noneInAnEmptyText(check);
        noneBehindAFullText(check);
        noneOfALongerTextBefore(check);
        check.end();
    }

    private static void characterK(Check check) {
        check.sentence("Character k of the text");
        PatternDialects x = new PatternDialects();
        String text = " ~azAZ09!/\\";
        Check.write(x, text);
        for (int k = 0; k < text.length(); k++) {
            check.due("at(" + k + ")", x.at(k), text.charAt(k));
        }
    }

    private static void noneWhenThereIsNone(Check check) {
        check.sentence("NONE when there is none");
        PatternDialects x = new PatternDialects();
        Check.write(x, "abc");
        int[] wrong = {-1, 3, 4, 47, 48, 49, Integer.MIN_VALUE, Integer.MAX_VALUE};
        for (int k : wrong) {
            check.due("at(" + k + ")", x.at(k), PatternDialects.NONE);
        }
        check.due("the text", Check.textOf(x), "abc");
    }

    private static void noneInAnEmptyText(Check check) {
        check.sentence("NONE when there is none: an empty text has no character 0");
        PatternDialects x = new PatternDialects();
        check.due("at(0)", x.at(0), PatternDialects.NONE);
        check.due("at(-1)", x.at(-1), PatternDialects.NONE);
    }

    private static void noneBehindAFullText(Check check) {
        check.sentence("at places 0, 1, .. : a full text has them to 47");
        PatternDialects x = new PatternDialects();
        Check.write(x, "a".repeat(47) + "b");
        check.due("at(46)", x.at(46), 'a');
        check.due("at(47)", x.at(47), 'b');
        check.due("at(48)", x.at(48), PatternDialects.NONE);
    }

    private static void noneOfALongerTextBefore(Check check) {
        check.sentence("NONE when there is none: a longer text before is gone");
        PatternDialects x = Check.machinesOf("a|b{6}", "b{6}");
        check.due("at(3)", x.at(3), '}');
        x.witness(0, 1);
        check.due("at(0)", x.at(0), 'a');
        check.due("at(1)", x.at(1), PatternDialects.NONE);
        check.due("at(3)", x.at(3), PatternDialects.NONE);
    }
}
