/** Promise 6, the grammar of REGEX. */
public final class RegexTest {
    private static final int REGEX = Check.REGEX;
    private static final String DIGITS = "0123456789";
    private static final String WORD_CHARACTERS = DIGITS + "ABCDEFGHIJKLMNOPQRSTUVWXYZ_abcdefghijklmnopqrstuvwxyz";

    public static void main(String[] args) {
        Check check = new Check("RegexTest");
        atoms(check);
        quantifiers(check);
        branchesAndGroups(check);
        classes(check);
        errors(check);
        errorsOfGroups(check);
        errorsOfQuantifiers(check);
        errorsOfClasses(check);
        check.end();
    }

    private static void atoms(Check check) {
        check.dueSet(REGEX, ".", Check.allBut(""));
        check.dueSet(REGEX, "\\d", DIGITS);
        check.dueSet(REGEX, "\\w", WORD_CHARACTERS);
        check.dueSet(REGEX, "\\s", " ");
        check.dueSet(REGEX, "\\D", Check.allBut(DIGITS));
        check.dueSet(REGEX, "\\W", Check.allBut(WORD_CHARACTERS));
        check.dueSet(REGEX, "\\S", Check.allBut(" "));
        for (char c : "\\|.?*+(){}[]-^".toCharArray()) {
            check.dueSet(REGEX, "\\" + c, String.valueOf(c));
        }
        for (char c : "^$-,/!_%~ aZ0:<=>@`'\"#&;".toCharArray()) {
            check.dueSet(REGEX, String.valueOf(c), String.valueOf(c));
        }
    }

    private static void quantifiers(Check check) {
        check.dueMatches(REGEX, "ab?", true, "a", "ab");
        check.dueMatches(REGEX, "ab?", false, "", "abb");
        check.dueMatches(REGEX, "ab*", true, "a", "ab", "abbbb");
        check.dueMatches(REGEX, "ab+", true, "ab", "abbb");
        check.dueMatches(REGEX, "ab+", false, "a");
        check.dueMatches(REGEX, "a{2}", true, "aa");
        check.dueMatches(REGEX, "a{2}", false, "a", "aaa");
        check.dueMatches(REGEX, "a{2,}", true, "aa", "aaaaaa");
        check.dueMatches(REGEX, "a{2,}", false, "", "a");
        check.dueMatches(REGEX, "a{1,3}", true, "a", "aa", "aaa");
        check.dueMatches(REGEX, "a{1,3}", false, "", "aaaa");
        check.dueMatches(REGEX, "a{0}b", true, "b");
        check.dueMatches(REGEX, "a{0}b", false, "ab");
        check.dueMatches(REGEX, "a{0,0}", true, "");
        check.dueMatches(REGEX, "a{0,}", true, "", "aaa");
        check.dueMatches(REGEX, "(ab){2,3}", true, "abab", "ababab");
        check.dueMatches(REGEX, "(ab){2,3}", false, "ab", "aabb", "abababab");
        check.dueMatches(REGEX, "(a|b)*c", true, "c", "abbac");
        check.dueMatches(REGEX, "[ab]{2}", true, "ab", "ba");
        check.dueMatches(REGEX, "\\d+\\.", true, "10.");
        check.dueMatches(REGEX, "(a*)*", true, "", "aaa");
        check.dueMatches(REGEX, "(a?b?)+", true, "", "ba", "abab");
    }

    private static void branchesAndGroups(Check check) {
        check.dueMatches(REGEX, "", true, "");
        check.dueMatches(REGEX, "|", true, "");
        check.dueMatches(REGEX, "a|b|", true, "a", "b", "");
        check.dueMatches(REGEX, "ab|cd", true, "ab", "cd");
        check.dueMatches(REGEX, "ab|cd", false, "abd", "acd");
        check.dueMatches(REGEX, "a(b|c)d", true, "abd", "acd");
        check.dueMatches(REGEX, "()", true, "");
        check.dueMatches(REGEX, "(|a)b", true, "b", "ab");
        check.dueMatches(REGEX, "((((a))))", true, "a");
        check.dueMatches(REGEX, "(a)(b)(c)(d)(e)", true, "abcde");
        check.dueMatches(REGEX, "((( |||)*){3}){9}", true, "", "   ");
    }

    private static void classes(Check check) {
        check.dueSet(REGEX, "[abc]", "abc");
        check.dueSet(REGEX, "[a-c]", "abc");
        check.dueSet(REGEX, "[a-a]", "a");
        check.dueSet(REGEX, "[^a-c]", Check.allBut("abc"));
        check.dueSet(REGEX, "[a^]", "^a");
        check.dueSet(REGEX, "[^^]", Check.allBut("^"));
        check.dueSet(REGEX, "[^^-a]", Check.allBut("^_`a"));
        check.dueSet(REGEX, "[\\^a]", "^a");
        check.dueSet(REGEX, "[\\dab]", DIGITS + "ab");
        check.dueSet(REGEX, "[\\d\\s]", " " + DIGITS);
        check.dueSet(REGEX, "[^\\W]", WORD_CHARACTERS);
        check.dueSet(REGEX, "[\\d\\D]", Check.allBut(""));
        check.dueSet(REGEX, "[^\\d\\D]", "");
        check.dueSet(REGEX, "[\\]\\[\\\\]", "[\\]");
        check.dueSet(REGEX, "[\\-a]", "-a");
        check.dueSet(REGEX, "[\\--0]", "-./0");
        check.dueSet(REGEX, "[\\[-\\]]", "[\\]");
        check.dueSet(REGEX, "[.?*+(){}|$,]", "$()*+,.?{|}");
        check.dueSet(REGEX, "[ -~]", Check.allBut(""));
        check.dueSet(REGEX, "[a-z-[aeiou]]", "bcdfghjklmnpqrstvwxyz");
        check.dueSet(REGEX, "[\\w-[\\d_]]", WORD_CHARACTERS.replaceAll("[0-9_]", ""));
        check.dueSet(REGEX, "[abc-[b]]", "ac");
        check.dueSet(REGEX, "[a-[a]]", "");
        check.dueSet(REGEX, "[a-e-[b-d-[c]]]", "ace");
        check.dueSet(REGEX, "[^a-[b]]", Check.allBut("ab"));
        check.dueSet(REGEX, "[a-d-[^b]]", "b");
        check.dueSet(REGEX, "[^a-[^b]]", "b");
        check.dueSet(REGEX, "[a-e-[b-d-[^c]]]", "abde");
        check.dueMatches(REGEX, "[abc-[a]][abc-[b]][a-c-[b-c-[c]]][a-c-[a-c-[b]]]", true, "bacb", "ccab");
        check.dueMatches(REGEX, "[abc-[a]][abc-[b]]", false, "aa", "bb", "ab");
    }

    private static void errors(Check check) {
        check.dueError(REGEX, "}", 0);
        check.dueError(REGEX, "]", 0);
        check.dueError(REGEX, "a]", 1);
        check.dueError(REGEX, "a)", 1);
        check.dueError(REGEX, "a))", 1);
        check.dueError(REGEX, "\\", 0);
        check.dueError(REGEX, "a\\", 1);
        check.dueError(REGEX, "\\a", 0);
        check.dueError(REGEX, "\\n", 0);
        check.dueError(REGEX, "\\_", 0);
        check.dueError(REGEX, "\\/", 0);
        check.dueError(REGEX, "\\,", 0);
        check.dueError(REGEX, "\\ ", 0);
        check.dueError(REGEX, "a\\q(", 1);
    }

    private static void errorsOfGroups(Check check) {
        check.dueError(REGEX, "(", 0);
        check.dueError(REGEX, "a(b", 1);
        check.dueError(REGEX, "(a(b", 2);
        check.dueError(REGEX, "(a(b)", 0);
        check.dueError(REGEX, "(()(", 3);
        check.dueError(REGEX, "(((((a)))))", 4);
        check.dueError(REGEX, "(((((", 4);
        check.dueError(REGEX, "((((a))))(((((", 13);
        check.dueError(REGEX, "(a]", 2);
        check.dueError(REGEX, "(a}", 2);
        check.dueError(REGEX, "(a**", 3);
        check.dueError(REGEX, "(a\\", 2);
        check.dueError(REGEX, "([a", 3);
        check.dueError(REGEX, "(a|b", 0);
    }

    private static void errorsOfQuantifiers(Check check) {
        for (String quantifier : new String[] {"?", "*", "+", "{2}", "{2,}", "{2,3}"}) {
            check.dueError(REGEX, quantifier, 0);
            check.dueError(REGEX, "a|" + quantifier, 2);
            check.dueError(REGEX, "a(" + quantifier + ")", 2);
            check.dueError(REGEX, "a" + quantifier + "*", 1 + quantifier.length());
            check.dueError(REGEX, "a" + quantifier + "{2}", 1 + quantifier.length());
            check.dueError(REGEX, "a*" + quantifier, 2);
        }
        String[] wrong = {"{", "{}", "{a}", "{,}", "{,2}", "{1", "{1,", "{1,2", "{12}", "{1,12}", "{10,}", "{2,1}", "{9,0}",
            "{1;2}", "{ 1}", "{1 }", "{1,a}", "{1,,2}", "{-1}", "{1,2a}"};
        for (String quantifier : wrong) {
            check.dueError(REGEX, "a" + quantifier, 1);
        }
    }

    private static void errorsOfClasses(Check check) {
        check.dueError(REGEX, "[", 1);
        check.dueError(REGEX, "[^", 2);
        check.dueError(REGEX, "[]", 1);
        check.dueError(REGEX, "[^]", 2);
        check.dueError(REGEX, "[a", 2);
        check.dueError(REGEX, "[a[b]]", 2);
        check.dueError(REGEX, "[[a]]", 1);
        check.dueError(REGEX, "[-a]", 1);
        check.dueError(REGEX, "[-[a]]", 1);
        check.dueError(REGEX, "[^-[a]]", 2);
        check.dueError(REGEX, "[a-]", 3);
        check.dueError(REGEX, "[a-", 3);
        check.dueError(REGEX, "[a--b]", 3);
        check.dueError(REGEX, "[a-\\d]", 3);
        check.dueError(REGEX, "[a-\\s]", 3);
        check.dueError(REGEX, "[a-\\q]", 3);
        check.dueError(REGEX, "[a-\\", 3);
        check.dueError(REGEX, "[z-a]", 3);
        check.dueError(REGEX, "[z-\\]]", 3);
        check.dueError(REGEX, "[\\]-\\[]", 4);
        check.dueError(REGEX, "[a-c-e]", 4);
        check.dueError(REGEX, "[a-c-]", 4);
        check.dueError(REGEX, "[a-c-", 4);
        check.dueError(REGEX, "[\\d-z]", 3);
        check.dueError(REGEX, "[\\d-]", 3);
        check.dueError(REGEX, "[\\d-", 3);
        check.dueError(REGEX, "[\\", 1);
        check.dueError(REGEX, "[\\q]", 1);
        check.dueError(REGEX, "[a\\]", 4);
        check.dueError(REGEX, "[a-[b]", 6);
        check.dueError(REGEX, "[a-[b]c]", 6);
        check.dueError(REGEX, "[a-[b]-[c]]", 6);
        check.dueError(REGEX, "[a-[", 4);
        check.dueError(REGEX, "[a-[]]", 4);
        check.dueError(REGEX, "[a-[b-[c-[d]]]]", 8);
        check.dueError(REGEX, "[a-[b-[\\d-[d]]]]", 9);
        check.dueError(REGEX, "[a-[b-[c-[", 8);
    }
}
