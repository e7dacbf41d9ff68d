import java.util.Random;

/** Promises 6 to 13 on many made-up patterns, against the slow reading of the document; the same patterns every time. */
public final class SlowCompareTest {
    private static final String[] ALPHABETS = {
        "aabz*?[]!-\\-][", "ab/*?[]{},!-\\{},*/z", "ab_%\\_%c", "aab()|*+?{}2,[]^-\\d.w()|[[]]--s9z1"
    };
    private static final String[][] BITS = {
        {"[", "]", "[!", "a-", "-", "\\", "*", "?", "ab", "z", "[]", "-]", "\\]", "[a-c]", "[!a]", "b", "\\-", "--"},
        {"[", "]", "{", "}", ",", "**", "*", "?", "/", "[!a]", "[a/]", "{a,b}", "\\", "ab", "{,", "[}]", "{", "}"},
        {"_", "%", "\\_", "\\%", "\\\\", "a", "b", "ab", "%%", "\\"},
        {"(", ")", "|", "*", "+", "?", "{2}", "{1,3}", "{0,}", "{2,}", "{0}", "[", "[^", "]", "-", "-[", "a-c", "\\d",
            "\\W", "[a-c]", "[^a]", "[\\w-[a-z]]", ".", "a", "b", "(a|b)", "ab", "\\s", "\\]", "]]", "{3,1}", "(|a)",
            "^", "{", "(", ")", "(", ")"}
    };
    private static final String[] QUANTIFIERS = {
        "", "", "", "", "?", "*", "+", "{0}", "{1}", "{2}", "{3}", "{0,}", "{1,}", "{2,}", "{0,2}", "{1,3}", "{2,4}", "{9}"
    };

    private static final Random RANDOM = new Random(20261115);

    public static void main(String[] args) {
        Check check = new Check("SlowCompareTest");
        int rounds = args.length > 0 ? Integer.parseInt(args[0]) : 8000;
        int[] answers = new int[3];
        for (int round = 0; round < rounds; round++) {
            compareRound(check, answers);
        }
        System.out.println("patterns: " + answers[0] + " machines, " + answers[1] + " errors, " + answers[2] + " too big");
        for (int answer : answers) {
            check.due("there were such patterns", answer > 0, true);
        }
        check.end();
    }

    private static void compareRound(Check check, int[] answers) {
        PatternDialects x = new PatternDialects();
        Slow.Machine[] machines = new Slow.Machine[4];
        String[] patterns = new String[4];
        Slow.Tree[] trees = new Slow.Tree[4];
        int focus = RANDOM.nextInt(6);
        for (int k = 0; k < 8; k++) {
            int dialect = focus < 4 ? focus : RANDOM.nextInt(4);
            String pattern = makePattern(dialect);
            int slot = RANDOM.nextInt(4);
            int got = Check.compile(x, slot, dialect, pattern);
            int want;
            try {
                Slow.Tree tree = Slow.read(pattern, dialect);
                Slow.Machine machine = new Slow.Machine(tree);
                want = machine.states();
                machines[slot] = machine;
                patterns[slot] = dialect + " " + pattern;
                trees[slot] = tree;
                answers[0]++;
            } catch (Slow.Fault fault) {
                want = -1 - fault.place;
                answers[1]++;
            } catch (Slow.TooBig tooBig) {
                want = PatternDialects.TOO_BIG;
                answers[2]++;
            }
            check.due("compile of " + dialect + " " + pattern, got, want);
            check.due("text stays", Check.textOf(x), pattern);
        }
        for (int slot = 0; slot < 4; slot++) {
            if (machines[slot] == null) {
                check.due("states of an empty slot", x.states(slot), PatternDialects.BAD);
                continue;
            }
            check.due("positions of " + patterns[slot], x.positions(slot), machines[slot].positions);
            check.due("states of " + patterns[slot], x.states(slot), machines[slot].states());
            check.due("kinds of " + patterns[slot], x.kinds(slot), machines[slot].kinds());
            for (int n : new int[] {0, 1, 2, 3, 5, RANDOM.nextInt(49)}) {
                check.due("words " + n + " of " + patterns[slot], x.words(slot, n), machines[slot].words(n));
            }
            for (int k = 0; k < 4; k++) {
                String word = makeWord();
                Check.write(x, word);
                boolean takes = Slow.takes(trees[slot], word);
                check.due(patterns[slot] + " takes " + word, x.matches(slot), takes ? 1 : 0);
                check.due("two slow ways", machines[slot].takes(word), takes);
            }
        }
        compareMachines(check, x, machines, patterns);
    }

    private static void compareMachines(Check check, PatternDialects x, Slow.Machine[] machines, String[] patterns) {
        for (int one = 0; one < 4; one++) {
            for (int other = 0; other < 4; other++) {
                if (machines[one] == null || machines[other] == null) {
                    check.due("within of an empty slot", x.within(one, other), PatternDialects.BAD);
                    check.due("witness of an empty slot", x.witness(one, other), PatternDialects.BAD);
                    continue;
                }
                String word = machines[one].witness(machines[other]);
                String call = patterns[one] + " and " + patterns[other];
                check.due("within of " + call, x.within(one, other), word == null ? 1 : 0);
                Check.write(x, "before");
                int got = x.witness(one, other);
                if (word == null) {
                    check.due("witness of " + call, got, PatternDialects.NONE);
                    check.due("text stays", Check.textOf(x), "before");
                } else if (word.length() > 48) {
                    check.due("witness of " + call, got, PatternDialects.TOO_BIG);
                    check.due("text stays", Check.textOf(x), "before");
                } else {
                    check.due("witness of " + call, got, word.length());
                    check.due("witness of " + call, Check.textOf(x), word);
                }
            }
        }
    }

    private static String makePattern(int dialect) {
        StringBuilder pattern = new StringBuilder();
        int way = RANDOM.nextInt(3);
        int size = RANDOM.nextInt(RANDOM.nextInt(8) == 0 ? 30 : 9);
        if (way == 2 && dialect == Check.REGEX) {
            makeChoice(pattern, 0);
            size = 0;
        }
        for (int k = 0; k < size; k++) {
            if (way > 0) {
                pattern.append(BITS[dialect][RANDOM.nextInt(BITS[dialect].length)]);
            } else {
                pattern.append(ALPHABETS[dialect].charAt(RANDOM.nextInt(ALPHABETS[dialect].length())));
            }
        }
        if (RANDOM.nextInt(12) == 0 && pattern.length() > 0) {
            pattern.deleteCharAt(RANDOM.nextInt(pattern.length()));
        }
        return pattern.length() > 48 ? pattern.substring(0, 48) : pattern.toString();
    }

    private static void makeChoice(StringBuilder pattern, int depth) {
        int branches = RANDOM.nextInt(3) == 0 ? 2 : 1;
        for (int branch = 0; branch < branches; branch++) {
            if (branch > 0) {
                pattern.append('|');
            }
            int pieces = RANDOM.nextInt(4);
            for (int k = 0; k < pieces; k++) {
                makeAtom(pattern, depth);
                pattern.append(QUANTIFIERS[RANDOM.nextInt(QUANTIFIERS.length)]);
            }
        }
    }

    private static void makeAtom(StringBuilder pattern, int depth) {
        switch (RANDOM.nextInt(6)) {
            case 0:
            case 1:
                if (depth < 4 || RANDOM.nextInt(20) == 0) {
                    pattern.append('(');
                    makeChoice(pattern, depth + 1);
                    pattern.append(')');
                    break;
                }
                pattern.append('b');
                break;
            case 2:
                makeClass(pattern, 1);
                break;
            case 3:
                pattern.append(RANDOM.nextBoolean() ? "." : "\\w");
                break;
            default:
                pattern.append("abc".charAt(RANDOM.nextInt(3)));
                break;
        }
    }

    private static void makeClass(StringBuilder pattern, int level) {
        String[] items = {"a", "b", "a-c", "\\d", "\\W", "^", "\\-", "\\]", "A-Z", "\\S"};
        pattern.append(RANDOM.nextInt(3) == 0 ? "[^" : "[");
        int size = 1 + RANDOM.nextInt(3);
        for (int k = 0; k < size; k++) {
            pattern.append(items[RANDOM.nextInt(items.length)]);
        }
        if (RANDOM.nextInt(3) == 0 && (level < 3 || RANDOM.nextInt(8) == 0)) {
            pattern.append('-');
            makeClass(pattern, level + 1);
        }
        pattern.append(']');
    }

    private static String makeWord() {
        StringBuilder word = new StringBuilder();
        int size = RANDOM.nextInt(7);
        String letters = RANDOM.nextBoolean() ? "ab" : "abcz/-]*_ 19}";
        for (int k = 0; k < size; k++) {
            word.append(letters.charAt(RANDOM.nextInt(letters.length())));
        }
        return word.toString();
    }
}
