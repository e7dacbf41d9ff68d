/** Promise 6, the classes of REGEX. */
public final class Promise06ClassTest {
    private static final int REGEX = Check.REGEX;
    private static final String DIGITS = "0123456789";
    private static final String WORD_CHARACTERS = DIGITS + "ABCDEFGHIJKLMNOPQRSTUVWXYZ_abcdefghijklmnopqrstuvwxyz";
    private static final String ESCAPED = "\\|.?*+(){}[]-^";

    public static void main(String[] args) {
        Check check = new Check("Promise06ClassTest");
        theSet(check);
        oneItemAtLeast(check);
        itemsThatAreSets(check);
        itemsThatAreCharacters(check);
        otherEscapes(check);
        twoWithAMinusBetween(check);
        theSecondLessThanTheFirst(check);
        aCaretInside(check);
        minusBehindACharacter(check);
        whatCanNotBeTheSecond(check);
        anyOtherMinus(check);
        subtractions(check);
        behindASubtraction(check);
        threeClassesDeep(check);
        endsTooEarly(check);
        check.end();
    }

    private static void theSet(Check check) {
        check.sentence("The set is the items' characters, or all others when ^ stands there");
        check.dueSet(REGEX, "[abc]", "abc");
        check.dueSet(REGEX, "[a-cb-d]", "abcd");
        check.dueSet(REGEX, "[^a-c]", Check.allBut("abc"));
        check.dueSet(REGEX, "[ -~]", Check.allBut(""));
        check.dueSet(REGEX, "[^ -~]", "");
        check.dueSet(REGEX, "[^!-~]", " ");
        check.dueSet(REGEX, "[^ -}]", "~");
        check.dueSet(REGEX, "[\\d\\D]", Check.allBut(""));
        check.dueSet(REGEX, "[^\\d\\D]", "");
        check.dueSet(REGEX, "[^\\W]", WORD_CHARACTERS);
    }

    private static void oneItemAtLeast(Check check) {
        check.sentence("items (one at least)");
        check.dueSet(REGEX, "[a]", "a");
        check.dueError(REGEX, "[]", 1);
        check.dueError(REGEX, "[]a]", 1);
        check.dueError(REGEX, "[^]", 2);
        check.dueError(REGEX, "[^]a]", 2);
        check.dueError(REGEX, "[-[a]]", 1);
        check.dueError(REGEX, "[^-[a]]", 2);
        check.dueError(REGEX, "[a-[]]", 4);
        check.dueError(REGEX, "[a-[^]]", 5);
    }

    private static void itemsThatAreSets(Check check) {
        check.sentence("An item is an escape of a set of more than one character or of \\s or \\S, \\D, \\W");
        check.dueSet(REGEX, "[\\d]", DIGITS);
        check.dueSet(REGEX, "[\\w]", WORD_CHARACTERS);
        check.dueSet(REGEX, "[\\s]", " ");
        check.dueSet(REGEX, "[\\D]", Check.allBut(DIGITS));
        check.dueSet(REGEX, "[\\W]", Check.allBut(WORD_CHARACTERS));
        check.dueSet(REGEX, "[\\S]", Check.allBut(" "));
        check.dueSet(REGEX, "[\\dab]", DIGITS + "ab");
        check.dueSet(REGEX, "[ab\\d]", DIGITS + "ab");
        check.dueSet(REGEX, "[!~\\s]", " !~");
        check.dueSet(REGEX, "[x\\W_]", Check.allBut(WORD_CHARACTERS.replaceAll("[x_]", "")));
        check.dueSet(REGEX, "[\\d\\s]", " " + DIGITS);
        check.dueSet(REGEX, "[^\\s]", Check.allBut(" "));
    }

    private static void itemsThatAreCharacters(Check check) {
        check.sentence("or a character (any but [ ] \\ - , or an escape that is a character)");
        for (char c = 32; c <= 126; c++) {
            String alone = c == 'x' ? "x" : c < 'x' ? c + "x" : "x" + c;
            if ("[]\\-".indexOf(c) < 0) {
                check.dueSet(REGEX, "[x" + c + "]", alone);
            }
            if (ESCAPED.indexOf(c) >= 0) {
                check.dueSet(REGEX, "[x\\" + c + "]", alone);
                check.dueSet(REGEX, "[\\" + c + "x]", alone);
            }
        }
        check.dueSet(REGEX, "[.?*+(){}|$,]", "$()*+,.?{|}");
        check.dueError(REGEX, "[[a]]", 1);
        check.dueError(REGEX, "[a[b]]", 2);
        check.dueMatches(REGEX, "[a]b", true, "ab");
        check.dueError(REGEX, "[a]]", 3);
    }

    private static void otherEscapes(Check check) {
        check.sentence("any other \\ an error at the \\ (in a class too)");
        for (char c = 32; c <= 126; c++) {
            if ((ESCAPED + "dwsDWS").indexOf(c) < 0) {
                check.dueError(REGEX, "[\\" + c + "]", 1);
                check.dueError(REGEX, "[^a\\" + c + "]", 3);
                check.dueError(REGEX, "[a-\\" + c + "]", 3);
            }
        }
        check.dueError(REGEX, "[\\", 1);
        check.dueError(REGEX, "[a\\", 2);
        check.dueError(REGEX, "[a-\\", 3);
        check.dueError(REGEX, "[a-[b\\", 5);
    }

    private static void twoWithAMinusBetween(Check check) {
        check.sentence("or two of them with - between them (all from the one to the other)");
        check.dueSet(REGEX, "[a-c]", "abc");
        check.dueSet(REGEX, "[a-a]", "a");
        check.dueSet(REGEX, "[a-cx-z]", "abcxyz");
        check.dueSet(REGEX, "[\\--0]", "-./0");
        check.dueSet(REGEX, "[+-\\-]", "+,-");
        check.dueSet(REGEX, "[\\[-\\]]", "[\\]");
        check.dueSet(REGEX, "[Z-\\]]", "Z[\\]");
        check.dueSet(REGEX, "[\\\\-\\^]", "\\]^");
        check.dueSet(REGEX, "[\\]-a]", "]^_`a");
    }

    private static void theSecondLessThanTheFirst(Check check) {
        check.sentence("an error at the second one, at its \\ if it has one, when it is less than the first");
        check.dueError(REGEX, "[z-a]", 3);
        check.dueError(REGEX, "[b-a]", 3);
        check.dueSet(REGEX, "[b-b]", "b");
        check.dueError(REGEX, "[^b-a]", 4);
        check.dueError(REGEX, "[z-\\]]", 3);
        check.dueError(REGEX, "[\\]-\\[]", 4);
        check.dueError(REGEX, "[\\]-A]", 4);
        check.dueError(REGEX, "[z-a", 3);
        check.dueError(REGEX, "[xa-cz-b]", 7);
        check.dueError(REGEX, "[a-[z-b]]", 6);
    }

    private static void aCaretInside(Check check) {
        check.sentence("A ^ that is not directly behind the [ is itself");
        check.dueSet(REGEX, "[a^]", "^a");
        check.dueSet(REGEX, "[^^]", Check.allBut("^"));
        check.dueSet(REGEX, "[^^-a]", Check.allBut("^_`a"));
        check.dueSet(REGEX, "[\\^a]", "^a");
        check.dueSet(REGEX, "[Z-^]", "Z[\\]^");
        check.dueSet(REGEX, "[a-e-[b^]]", "acde");
        check.dueSet(REGEX, "[a-e-[^b]]", "b");
    }

    private static void minusBehindACharacter(Check check) {
        check.sentence("A - behind a character that is an item is taken for one between two, unless [ is behind it");
        check.dueSet(REGEX, "[ab-d]", "abcd");
        check.dueSet(REGEX, "[a-[a]]", "");
        check.dueSet(REGEX, "[a-[b]]", "a");
        check.dueSet(REGEX, "[\\--[a]]", "-");
        check.dueSet(REGEX, "[A-\\[]", "ABCDEFGHIJKLMNOPQRSTUVWXYZ[");
        check.dueError(REGEX, "[a-", 3);
        check.dueError(REGEX, "[\\--", 4);
    }

    private static void whatCanNotBeTheSecond(Check check) {
        check.sentence("so what can not be its second one, also ] and the \\ of a set, is the error");
        check.dueError(REGEX, "[a-]", 3);
        check.dueError(REGEX, "[^a-]", 4);
        check.dueError(REGEX, "[a-]b]", 3);
        check.dueError(REGEX, "[a--]", 3);
        check.dueError(REGEX, "[a--b]", 3);
        check.dueError(REGEX, "[a--[b]]", 3);
        for (char c : "dwsDWS".toCharArray()) {
            check.dueError(REGEX, "[a-\\" + c + "]", 3);
        }
    }

    private static void anyOtherMinus(Check check) {
        check.sentence("any other - that does not begin a subtraction is an error itself");
        check.dueError(REGEX, "[-", 1);
        check.dueError(REGEX, "[-a]", 1);
        check.dueError(REGEX, "[-]", 1);
        check.dueError(REGEX, "[^-a]", 2);
        check.dueError(REGEX, "[--a]", 1);
        check.dueError(REGEX, "[a-c-e]", 4);
        check.dueError(REGEX, "[a-c-]", 4);
        check.dueError(REGEX, "[a-c-", 4);
        check.dueError(REGEX, "[a-c--[b]]", 4);
        check.dueError(REGEX, "[\\d-z]", 3);
        check.dueError(REGEX, "[\\s-a]", 3);
        check.dueError(REGEX, "[\\d-]", 3);
        check.dueError(REGEX, "[\\d-", 3);
        check.dueError(REGEX, "[a-[-b]]", 4);
    }

    private static void subtractions(Check check) {
        check.sentence("without those of the subtraction's class");
        check.dueSet(REGEX, "[a-z-[aeiou]]", "bcdfghjklmnpqrstvwxyz");
        check.dueSet(REGEX, "[\\w-[\\d_]]", WORD_CHARACTERS.replaceAll("[0-9_]", ""));
        check.dueSet(REGEX, "[abc-[b]]", "ac");
        check.dueSet(REGEX, "[abc-[x]]", "abc");
        check.dueSet(REGEX, "[^a-[b]]", Check.allBut("ab"));
        check.dueSet(REGEX, "[a-d-[^b]]", "b");
        check.dueSet(REGEX, "[^a-[^b]]", "b");
        check.dueSet(REGEX, "[a-e-[b-d-[c]]]", "ace");
        check.dueSet(REGEX, "[a-e-[b-d-[^c]]]", "abde");
        check.dueMatches(REGEX, "[abc-[a]][abc-[b]][a-c-[b-c-[c]]][a-c-[a-c-[b]]]", true, "bacb", "ccab");
        check.dueMatches(REGEX, "[abc-[a]][abc-[b]]", false, "aa", "bb", "ab");
    }

    private static void behindASubtraction(Check check) {
        check.sentence("perhaps a SUBTRACTION: - and a class; then ]");
        check.dueError(REGEX, "[a-[b]c]", 6);
        check.dueError(REGEX, "[a-[b]-[c]]", 6);
        check.dueError(REGEX, "[a-[b][c]]", 6);
        check.dueError(REGEX, "[a-[b]", 6);
        check.dueError(REGEX, "[a-[b-[c]", 9);
        check.dueError(REGEX, "[a-[b-[c]]", 10);
        check.dueError(REGEX, "[a-[b-[c]d]]", 9);
        check.dueError(REGEX, "[a-[b]]]", 7);
    }

    private static void threeClassesDeep(Check check) {
        check.sentence("A class in a class in a class may not have a subtraction: an error at its -");
        check.dueSet(REGEX, "[a-e-[b-e-[c-d]]]", "acd");
        check.dueError(REGEX, "[a-[b-[c-[d]]]]", 8);
        check.dueError(REGEX, "[a-[b-[c-[", 8);
        check.dueError(REGEX, "[a-[b-[^c-[", 9);
        check.dueError(REGEX, "[a-[b-[\\d-[d]]]]", 9);
        check.dueError(REGEX, "[a-[b-[c-e-[d]]]]", 10);
        check.dueError(REGEX, "[a-[b-[-[d]]]]", 7);
    }

    private static void endsTooEarly(Check check) {
        check.sentence("or the text's length when it ends too early");
        check.dueError(REGEX, "[", 1);
        check.dueError(REGEX, "[^", 2);
        check.dueError(REGEX, "[a", 2);
        check.dueError(REGEX, "[\\d", 3);
        check.dueError(REGEX, "[a\\]", 4);
        check.dueError(REGEX, "[a-z", 4);
        check.dueError(REGEX, "[a-[", 4);
        check.dueError(REGEX, "[a-[^", 5);
        check.dueError(REGEX, "[a-[b-[", 7);
        check.dueError(REGEX, "x([a", 4);
        check.dueError(REGEX, "a".repeat(47) + "[", 48);
    }
}
