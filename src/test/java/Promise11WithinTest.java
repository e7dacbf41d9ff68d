/** Promise 11: within. */
public final class Promise11WithinTest {
    private static final int[] WRONG_SLOTS = {-1, 4, 5, Integer.MIN_VALUE, Integer.MAX_VALUE};

    public static void main(String[] args) {
        Check check = new Check("Promise11WithinTest");
        allWordsOfOne(check);
        ofItself(check);
        withoutWords(check);
        onlyTheEmptyWord(check);
        onlyOneCharacterApart(check);
        farApart(check);
        acrossDialects(check);
        badSlot(check);
        emptySlot(check);
        changesNothing(check);
        check.end();
    }

    private static void dueWithin(Check check, String pattern, String other, int want, int back) {
        PatternDialects x = Check.machinesOf(pattern, other);
        check.due(pattern + " within " + other, x.within(0, 1), want);
        check.due(other + " within " + pattern, x.within(1, 0), back);
    }

    private static void allWordsOfOne(Check check) {
        check.sentence("Whether all words of a slot's pattern are words of another one's: 1 or 0");
        dueWithin(check, "a", "b", 0, 0);
        dueWithin(check, "a", "a|b", 1, 0);
        dueWithin(check, "a+", "a*", 1, 0);
        dueWithin(check, "(a|b)*", "(a*b*)*", 1, 1);
        dueWithin(check, "(a|b)*abb", "[ab]*[ab]bb", 1, 0);
        dueWithin(check, "a{2,3}", "a{1,4}", 1, 0);
    }

    private static void ofItself(Check check) {
        check.sentence("Whether all words of a slot's pattern are words of another one's: its own are");
        PatternDialects x = Check.machineOf(Check.REGEX, "(ab|c{2,3}d)*e+");
        check.due("within(0, 0)", x.within(0, 0), 1);
        Check.compile(x, 3, Check.REGEX, "c{9}c{9}c{8}[ab]*a[ab]{4}");
        check.due("within(3, 3)", x.within(3, 3), 1);
    }

    private static void withoutWords(Check check) {
        check.sentence("Whether all words of a slot's pattern are words of another one's: of no words all are");
        dueWithin(check, "[a-[a]]", "x", 1, 0);
        dueWithin(check, "[a-[a]]", "[b-[b]]c", 1, 1);
        dueWithin(check, ".*", "[a-[a]]", 0, 1);
    }

    private static void onlyTheEmptyWord(Check check) {
        check.sentence("Whether all words of a slot's pattern are words of another one's: the empty word too");
        dueWithin(check, "", "a*", 1, 0);
        dueWithin(check, "", "a+", 0, 0);
        dueWithin(check, "", "[a-[a]]*", 1, 1);
        dueWithin(check, "", "[a-[a]]", 0, 1);
    }

    private static void onlyOneCharacterApart(Check check) {
        check.sentence("Whether all words of a slot's pattern are words of another one's: the first and last characters too");
        dueWithin(check, ".", "[ -}]", 0, 1);
        dueWithin(check, ".", "[!-~]", 0, 1);
        dueWithin(check, ".", "[ -~]", 1, 1);
    }

    private static void farApart(Check check) {
        check.sentence("Whether all words of a slot's pattern are words of another one's: words of more than 48 characters too");
        dueWithin(check, "(a{7})*", "(a{8})*a{1,7}|", 0, 0);
        dueWithin(check, "(a{7})*", "(a{8})*a{0,7}", 1, 0);
        dueWithin(check, "(a{9}){2}(a{9})*", "(a{8}a{3})*a{1,9}(a|)|", 0, 0);
    }

    private static void acrossDialects(Check check) {
        check.sentence("of another one's: of any dialect's");
        PatternDialects x = Check.machineOf(Check.GLOB, "*");
        Check.compile(x, 1, Check.PATH, "*");
        Check.compile(x, 2, Check.LIKE, "%");
        Check.compile(x, 3, Check.REGEX, ".*");
        for (int slot = 0; slot < 4; slot++) {
            for (int other = 0; other < 4; other++) {
                check.due("within(" + slot + ", " + other + ")", x.within(slot, other), other == 1 && slot != 1 ? 0 : 1);
            }
        }
    }

    private static void badSlot(Check check) {
        check.sentence("BAD when one of them is none");
        PatternDialects x = Check.machineOf(Check.GLOB, "a");
        for (int slot : WRONG_SLOTS) {
            check.due("within(0, " + slot + ")", x.within(0, slot), PatternDialects.BAD);
            check.due("within(" + slot + ", 0)", x.within(slot, 0), PatternDialects.BAD);
            check.due("within(" + slot + ", " + slot + ")", x.within(slot, slot), PatternDialects.BAD);
            check.due("within(" + slot + ", 3)", x.within(slot, 3), PatternDialects.BAD);
        }
    }

    private static void emptySlot(Check check) {
        check.sentence("BAD when one of them is empty");
        PatternDialects x = Check.machineOf(Check.GLOB, "a");
        for (int slot = 1; slot < 4; slot++) {
            check.due("within(0, " + slot + ")", x.within(0, slot), PatternDialects.BAD);
            check.due("within(" + slot + ", 0)", x.within(slot, 0), PatternDialects.BAD);
            check.due("within(" + slot + ", " + slot + ")", x.within(slot, slot), PatternDialects.BAD);
        }
        check.due("within(0, 0)", x.within(0, 0), 1);
    }

    private static void changesNothing(Check check) {
        check.sentence("A call that fails changes nothing, and within changes nothing at all");
        PatternDialects x = Check.machinesOf("a|b", "a");
        String before = Check.everythingOf(x);
        check.due("within(0, 1)", x.within(0, 1), 0);
        check.due("within(0, 2)", x.within(0, 2), PatternDialects.BAD);
        check.due("within(-1, 0)", x.within(-1, 0), PatternDialects.BAD);
        check.due("everything", Check.everythingOf(x), before);
    }
}
