/** Promise 6, the grammar of REGEX but for its classes. */
public final class Promise06RegexTest {
    private static final int REGEX = Check.REGEX;
    private static final String DIGITS = "0123456789";
    private static final String WORD_CHARACTERS = DIGITS + "ABCDEFGHIJKLMNOPQRSTUVWXYZ_abcdefghijklmnopqrstuvwxyz";
    private static final String ESCAPED = "\\|.?*+(){}[]-^";

    public static void main(String[] args) {
        Check check = new Check("Promise06RegexTest");
        branches(check);
        branchesOfNone(check);
        oneQuantifierAtMost(check);
        aQuantifierNeedsAnAtom(check);
        shortQuantifiers(check);
        counts(check);
        oneDigitEach(check);
        notGreater(check);
        anythingElseBehindABrace(check);
        any(check);
        groups(check);
        aFifthGroup(check);
        aGroupWithoutItsEnd(check);
        anyOtherCharacter(check);
        escapesOfSets(check);
        escapesOfCharacters(check);
        otherEscapes(check);
        check.end();
    }

    private static void branches(Check check) {
        check.sentence("a choice of BRANCHES with | between them; a branch is a join of PIECES");
        check.dueMatches(REGEX, "ab|cd", true, "ab", "cd");
        check.dueMatches(REGEX, "ab|cd", false, "", "abd", "acd", "abcd", "ab|cd");
        check.dueMatches(REGEX, "a|b*|c", true, "a", "", "bbb", "c");
    }

    private static void branchesOfNone(Check check) {
        check.sentence("a join of PIECES, perhaps of none");
        check.dueMatches(REGEX, "", true, "");
        check.dueMatches(REGEX, "", false, "a");
        check.dueMatches(REGEX, "|", true, "");
        check.dueMatches(REGEX, "|", false, "|");
        check.dueMatches(REGEX, "a|b|", true, "a", "b", "");
        check.dueMatches(REGEX, "a||b", true, "a", "b", "");
        check.dueMatches(REGEX, "()", true, "");
        check.dueMatches(REGEX, "(|a)b", true, "b", "ab");
        check.dueMatches(REGEX, "(){9}(|)*", true, "");
        check.dueMatches(REGEX, "((( |||)*){3}){9}", true, "", "   ");
    }

    private static void oneQuantifierAtMost(Check check) {
        check.sentence("a piece is an ATOM and perhaps a QUANTIFIER");
        for (String quantifier : new String[] {"?", "*", "+", "{2}", "{2,}", "{2,3}"}) {
            check.due("compile of a" + quantifier, Check.compile(new PatternDialects(), 0, REGEX, "a" + quantifier) > 0, true);
            check.dueError(REGEX, "a" + quantifier + "*", 1 + quantifier.length());
            check.dueError(REGEX, "a" + quantifier + "{2}", 1 + quantifier.length());
            check.dueError(REGEX, "a*" + quantifier, 2);
            check.dueError(REGEX, "(a)+" + quantifier, 4);
        }
        check.dueMatches(REGEX, "(a{2})*", true, "", "aaaa");
        check.dueMatches(REGEX, "(a{2})*", false, "a", "aaa");
    }

    private static void aQuantifierNeedsAnAtom(Check check) {
        check.sentence("An error is at the place of the first character that can not be there");
        for (String quantifier : new String[] {"?", "*", "+", "{2}", "{2,}", "{2,3}"}) {
            check.dueError(REGEX, quantifier, 0);
            check.dueError(REGEX, "a|" + quantifier, 2);
            check.dueError(REGEX, "a(" + quantifier + ")", 2);
            check.dueError(REGEX, "a(b|" + quantifier + ")", 4);
        }
        check.dueError(REGEX, "a)", 1);
        check.dueError(REGEX, "(a))", 3);
        check.dueError(REGEX, "a]", 1);
        check.dueError(REGEX, "a}", 1);
        check.dueError(REGEX, "(a]", 2);
        check.dueError(REGEX, "(a}", 2);
        check.dueError(REGEX, "(a**", 3);
    }

    private static void shortQuantifiers(Check check) {
        check.sentence("? is times 0 to 1, * times 0 and more, + times 1 and more");
        check.dueMatches(REGEX, "ab?", true, "a", "ab");
        check.dueMatches(REGEX, "ab?", false, "", "abb");
        check.dueMatches(REGEX, "ab*", true, "a", "ab", "abbbb");
        check.dueMatches(REGEX, "ab*", false, "", "b", "aab");
        check.dueMatches(REGEX, "ab+", true, "ab", "abbb");
        check.dueMatches(REGEX, "ab+", false, "a", "", "abab");
        check.dueMatches(REGEX, "(ab)+", true, "ab", "abab");
        check.dueMatches(REGEX, "(a|b)*c", true, "c", "abbac");
        check.dueMatches(REGEX, "[ab]+\\d?", true, "ab", "ba7");
        check.dueMatches(REGEX, "(a*)*", true, "", "aaa");
        check.dueMatches(REGEX, "(a?b?)+", true, "", "ba", "abab");
    }

    private static void counts(Check check) {
        check.sentence("{n} times n to n, {n,} times n and more, {n,m} times n to m");
        check.dueMatches(REGEX, "a{2}", true, "aa");
        check.dueMatches(REGEX, "a{2}", false, "", "a", "aaa");
        check.dueMatches(REGEX, "a{2,}", true, "aa", "aaa", "a".repeat(48));
        check.dueMatches(REGEX, "a{2,}", false, "", "a");
        check.dueMatches(REGEX, "a{1,3}", true, "a", "aa", "aaa");
        check.dueMatches(REGEX, "a{1,3}", false, "", "aaaa");
        check.dueMatches(REGEX, "(ab){2,3}", true, "abab", "ababab");
        check.dueMatches(REGEX, "(ab){2,3}", false, "ab", "aabb", "abababab");
    }

    private static void oneDigitEach(Check check) {
        check.sentence("n and m being one digit each");
        check.dueMatches(REGEX, "a{0}b", true, "b");
        check.dueMatches(REGEX, "a{0}b", false, "ab");
        check.dueMatches(REGEX, "a{0,}", true, "", "aaa");
        check.dueMatches(REGEX, "a{9}", true, "a".repeat(9));
        check.dueMatches(REGEX, "a{9}", false, "a".repeat(8), "a".repeat(10));
        check.dueMatches(REGEX, "a{0,9}", true, "", "a".repeat(9));
        check.dueMatches(REGEX, "a{0,9}", false, "a".repeat(10));
        for (String wrong : new String[] {"{10}", "{12}", "{00}", "{10,}", "{1,12}", "{1,01}", "{-1}", "{a}", "{1,a}"}) {
            check.dueError(REGEX, "a" + wrong, 1);
        }
    }

    private static void notGreater(Check check) {
        check.sentence("n not greater than m");
        check.dueMatches(REGEX, "a{0,0}", true, "");
        check.dueMatches(REGEX, "a{0,0}", false, "a");
        check.dueMatches(REGEX, "a{3,3}", true, "aaa");
        check.dueMatches(REGEX, "a{9,9}", true, "a".repeat(9));
        check.dueError(REGEX, "a{1,0}", 1);
        check.dueError(REGEX, "a{3,2}", 1);
        check.dueError(REGEX, "a{9,0}", 1);
        check.dueError(REGEX, "a{9,8}", 1);
    }

    private static void anythingElseBehindABrace(Check check) {
        check.sentence("Anything else behind { is an error at the {");
        String[] wrong = {"{", "{}", "{,}", "{,2}", "{1", "{1,", "{1,2", "{1;2}", "{ 1}", "{1 }", "{1, 2}", "{1,,2}", "{1,2a}",
            "{1,2,3}", "{{1}}", "{+}", "{1)"};
        for (String quantifier : wrong) {
            check.dueError(REGEX, "a" + quantifier, 1);
            check.dueError(REGEX, "(bc)" + quantifier, 4);
            check.dueError(REGEX, "(bc" + quantifier, 3);
        }
        check.dueError(REGEX, "a".repeat(47) + "{", 47);
    }

    private static void any(Check check) {
        check.sentence(". is ANY");
        check.dueSet(REGEX, ".", Check.allBut(""));
    }

    private static void groups(Check check) {
        check.sentence("( a choice of branches and ) that choice");
        check.dueMatches(REGEX, "a(b|c)d", true, "abd", "acd");
        check.dueMatches(REGEX, "a(b|c)d", false, "ab", "cd", "abcd", "a(b|c)d");
        check.dueMatches(REGEX, "(a(b|c)|d)e", true, "abe", "ace", "de");
        check.dueMatches(REGEX, "(a(b|c)|d)e", false, "ae", "ade");
    }

    private static void aFifthGroup(Check check) {
        check.sentence("an error at the ( of a fifth one in one another");
        check.dueMatches(REGEX, "((((a))))", true, "a");
        check.dueMatches(REGEX, "((((a))))((((b))))", true, "ab");
        check.dueMatches(REGEX, "(a)(b)(c)(d)(e)(f)", true, "abcdef");
        check.dueMatches(REGEX, "((((\\([(]))))", true, "((");
        check.dueError(REGEX, "(((((a)))))", 4);
        check.dueError(REGEX, "(((((", 4);
        check.dueError(REGEX, "(a(b(c(d(e)))))", 8);
        check.dueError(REGEX, "((((a))))(((((", 13);
        check.dueError(REGEX, "((((a)(b)((", 10);
    }

    private static void aGroupWithoutItsEnd(Check check) {
        check.sentence("and at one without its ) , of several the one in the others");
        check.dueError(REGEX, "(", 0);
        check.dueError(REGEX, "a(b", 1);
        check.dueError(REGEX, "(a(b", 2);
        check.dueError(REGEX, "(a(b(c(d", 6);
        check.dueError(REGEX, "(a(b)", 0);
        check.dueError(REGEX, "(()(", 3);
        check.dueError(REGEX, "(a|b", 0);
        check.dueError(REGEX, "(a|", 0);
        check.dueError(REGEX, "(a*", 0);
        check.dueError(REGEX, "(a\\)", 0);
        check.dueError(REGEX, "(a[)]", 0);
        check.dueError(REGEX, "a".repeat(47) + "(", 47);
    }

    private static void anyOtherCharacter(Check check) {
        check.sentence("any other character but ? * + { } ) ] | is itself");
        for (char c = 32; c <= 126; c++) {
            if ("?*+{})]".indexOf(c) >= 0) {
                check.dueError(REGEX, String.valueOf(c), 0);
            } else if (".([\\|".indexOf(c) < 0) {
                check.dueSet(REGEX, String.valueOf(c), String.valueOf(c));
            }
        }
        check.dueMatches(REGEX, "^a$", true, "^a$");
        check.dueMatches(REGEX, "a,1-2", true, "a,1-2");
    }

    private static void escapesOfSets(Check check) {
        check.sentence("\\d the digits, \\w the letters, digits and _ , \\s the space, \\D \\W \\S all others");
        check.dueSet(REGEX, "\\d", DIGITS);
        check.dueSet(REGEX, "\\w", WORD_CHARACTERS);
        check.dueSet(REGEX, "\\s", " ");
        check.dueSet(REGEX, "\\D", Check.allBut(DIGITS));
        check.dueSet(REGEX, "\\W", Check.allBut(WORD_CHARACTERS));
        check.dueSet(REGEX, "\\S", Check.allBut(" "));
        check.dueMatches(REGEX, "\\d+\\.\\d{2}", true, "10.25");
    }

    private static void escapesOfCharacters(Check check) {
        check.sentence("\\ and one of \\ | . ? * + ( ) { } [ ] - ^ that character");
        for (char c : ESCAPED.toCharArray()) {
            check.dueSet(REGEX, "\\" + c, String.valueOf(c));
        }
        check.dueMatches(REGEX, "\\{{2}", true, "{{");
    }

    private static void otherEscapes(Check check) {
        check.sentence("any other \\ an error at the \\");
        for (char c = 32; c <= 126; c++) {
            if ((ESCAPED + "dwsDWS").indexOf(c) < 0) {
                check.dueError(REGEX, "\\" + c, 0);
                check.dueError(REGEX, "(a\\" + c + ")", 2);
            }
        }
        check.dueError(REGEX, "\\", 0);
        check.dueError(REGEX, "a\\", 1);
        check.dueError(REGEX, "(a\\", 2);
        check.dueError(REGEX, "\\\\\\", 2);
        check.dueError(REGEX, "a\\q(", 1);
        check.dueError(REGEX, "a".repeat(47) + "\\", 47);
    }
}
