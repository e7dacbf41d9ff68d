/** Promises 11 and 12: within and witness. */
public final class WitnessTest {
    public static void main(String[] args) {
        Check check = new Check("WitnessTest");
        wrongSlots(check);
        ordinary(check);
        longWords(check);
        acrossDialects(check);
        check.end();
    }

    private static void wrongSlots(Check check) {
        PatternDialects x = new PatternDialects();
        Check.compile(x, 0, Check.GLOB, "a");
        int[] wrong = {-1, 1, 2, 3, 4, Integer.MIN_VALUE, Integer.MAX_VALUE};
        for (int slot : wrong) {
            check.due("within(0, " + slot + ")", x.within(0, slot), PatternDialects.BAD);
            check.due("within(" + slot + ", 0)", x.within(slot, 0), PatternDialects.BAD);
            check.due("witness(0, " + slot + ")", x.witness(0, slot), PatternDialects.BAD);
            check.due("witness(" + slot + ", 0)", x.witness(slot, 0), PatternDialects.BAD);
        }
        check.due("the text stays", Check.textOf(x), "a");
        check.due("within(0, 0)", x.within(0, 0), 1);
        check.due("witness(0, 0)", x.witness(0, 0), PatternDialects.NONE);
        check.due("the text stays", Check.textOf(x), "a");
    }

    private static void ordinary(Check check) {
        dueWitness(check, "a", "b", "a");
        dueWitness(check, "a", "a|b", null);
        dueWitness(check, "a|b", "a", "b");
        dueWitness(check, "a*", "a+", "");
        dueWitness(check, "a+", "a*", null);
        dueWitness(check, "(a|b)*", "(a*b*)*", null);
        dueWitness(check, "(a*b*)*", "(a|b)*", null);
        dueWitness(check, ".*", "", " ");
        dueWitness(check, ".*", "|\\s", "!");
        dueWitness(check, ".*", "(.?){3}", "    ");
        dueWitness(check, "ba|ab|c{3}", "x", "ab");
        dueWitness(check, "ba|ab|~", "x", "~");
        dueWitness(check, "b[ab]|a[ab]", "ab|aa", "ba");
        dueWitness(check, "[^a-[^b]]", "x", "b");
        dueWitness(check, "[a-[a]]", "x", null);
        dueWitness(check, "[a-[a]]*", "x", "");
        dueWitness(check, "(a|b)*abb", "(a|b)*babb", "abb");
        dueWitness(check, "a{5}|b{4}a|b{5}", "a{5}", "bbbba");
    }

    private static void longWords(Check check) {
        String notOf16 = "(b{8}b{8})*b(b{0,9}b{0,5})|";
        dueWitness(check, "(b{3})*", notOf16, "b".repeat(48));
        dueWitness(check, "(a{6})*", "(a{7})*a{1,6}|", "a".repeat(42));
        dueTooBig(check, "b(b{3})*", "b(" + notOf16 + ")|b");
        dueTooBig(check, "(a{7})*", "(a{8})*a{1,7}|");
    }

    private static void dueWitness(Check check, String pattern, String other, String word) {
        PatternDialects x = new PatternDialects();
        check.due("compile of " + pattern, Check.compile(x, 2, Check.REGEX, pattern) > 0, true);
        check.due("compile of " + other, Check.compile(x, 1, Check.REGEX, other) > 0, true);
        String call = " of " + pattern + " and " + other;
        check.due("within" + call, x.within(2, 1), word == null ? 1 : 0);
        check.due("the text stays", Check.textOf(x), other);
        check.due("witness" + call, x.witness(2, 1), word == null ? PatternDialects.NONE : word.length());
        check.due("text of witness" + call, Check.textOf(x), word == null ? other : word);
        if (word != null) {
            check.due("matches(2)", x.matches(2), 1);
            check.due("matches(1)", x.matches(1), 0);
        }
    }

    private static void dueTooBig(Check check, String pattern, String other) {
        PatternDialects x = new PatternDialects();
        check.due("compile of " + pattern, Check.compile(x, 0, Check.REGEX, pattern) > 0, true);
        check.due("compile of " + other, Check.compile(x, 3, Check.REGEX, other) > 0, true);
        check.due("within of " + pattern, x.within(0, 3), 0);
        check.due("witness of " + pattern, x.witness(0, 3), PatternDialects.TOO_BIG);
        check.due("the text stays", Check.textOf(x), other);
    }

    private static void acrossDialects(Check check) {
        PatternDialects x = new PatternDialects();
        Check.compile(x, 0, Check.GLOB, "*");
        Check.compile(x, 1, Check.PATH, "*");
        Check.compile(x, 2, Check.LIKE, "%");
        Check.compile(x, 3, Check.REGEX, ".*");
        check.due("PATH in GLOB", x.within(1, 0), 1);
        check.due("GLOB in PATH", x.within(0, 1), 0);
        check.due("GLOB in LIKE", x.within(0, 2), 1);
        check.due("LIKE in REGEX", x.within(2, 3), 1);
        check.due("REGEX in GLOB", x.within(3, 0), 1);
        check.due("witness of GLOB and PATH", x.witness(0, 1), 1);
        check.due("its text", Check.textOf(x), "/");
    }
}
