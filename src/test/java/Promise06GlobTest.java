/** Promise 6, the grammar of GLOB. */
public final class Promise06GlobTest {
    private static final int GLOB = Check.GLOB;

    public static void main(String[] args) {
        Check check = new Check("Promise06GlobTest");
        questionMark(check);
        star(check);
        escape(check);
        escapeOfNothing(check);
        anyOtherCharacter(check);
        theJoin(check);
        turnedRound(check);
        oneItemAtLeast(check);
        twoWithAMinusBetween(check);
        theSecondLessThanTheFirst(check);
        charactersOfABracket(check);
        endOfBracketAsFirst(check);
        minusBeforeTheEnd(check);
        noEnd(check);
        anErrorBeforeThat(check);
        check.end();
    }

    private static void questionMark(Check check) {
        check.sentence("? is ANY");
        check.dueSet(GLOB, "?", Check.allBut(""));
    }

    private static void star(Check check) {
        check.sentence("* is ANY times 0 and more");
        check.dueMatches(GLOB, "*", true, "", "a", "/", "a/b", "~".repeat(48));
        check.dueMatches(GLOB, "**", true, "", "a", "a/b");
        check.duePositions(GLOB, "*", 1);
        check.duePositions(GLOB, "**", 2);
    }

    private static void escape(Check check) {
        check.sentence("\\ and any character is that character");
        for (char c = 32; c <= 126; c++) {
            check.dueSet(GLOB, "\\" + c, String.valueOf(c));
        }
    }

    private static void escapeOfNothing(Check check) {
        check.sentence("an error at the \\ when nothing follows");
        check.dueError(GLOB, "\\", 0);
        check.dueError(GLOB, "ab\\", 2);
        check.dueError(GLOB, "ab\\\\\\", 4);
        check.dueError(GLOB, "[a]\\", 3);
        check.dueError(GLOB, "a".repeat(47) + "\\", 47);
    }

    private static void anyOtherCharacter(Check check) {
        check.sentence("any other character is itself");
        for (char c = 32; c <= 126; c++) {
            if ("?*[\\".indexOf(c) < 0) {
                check.dueSet(GLOB, String.valueOf(c), String.valueOf(c));
            }
        }
        check.dueMatches(GLOB, "{a,b}", true, "{a,b}");
        check.dueMatches(GLOB, "{a,b}", false, "a", "b");
    }

    private static void theJoin(Check check) {
        check.sentence("The pattern is the join of these");
        check.dueMatches(GLOB, "a*b?c", true, "abxc", "a/b/c", "abbbbc", "a*b?c");
        check.dueMatches(GLOB, "a*b?c", false, "", "abc", "abxcd", "xabxc");
        check.dueMatches(GLOB, "[a]]", true, "a]");
    }

    private static void turnedRound(Check check) {
        check.sentence("perhaps ! , which turns it round; the set is that of the items' characters, or of all others");
        check.dueSet(GLOB, "[abc]", "abc");
        check.dueSet(GLOB, "[!a-y]", Check.allBut("abcdefghijklmnopqrstuvwxy"));
        check.dueSet(GLOB, "[!!]", Check.allBut("!"));
        check.dueSet(GLOB, "[a!]", "!a");
        check.dueSet(GLOB, "[\\!a]", "!a");
        check.dueSet(GLOB, "[^a]", "^a");
        check.dueSet(GLOB, "[! -~]", "");
        check.dueSet(GLOB, "[!!-~]", " ");
        check.dueSet(GLOB, "[! -}]", "~");
        check.dueSet(GLOB, "[ -~]", Check.allBut(""));
    }

    private static void oneItemAtLeast(Check check) {
        check.sentence("then one item at least");
        check.dueSet(GLOB, "[a]", "a");
        check.dueError(GLOB, "[]", 0);
        check.dueError(GLOB, "[!]", 0);
        check.dueError(GLOB, "a[]b", 1);
        check.dueError(GLOB, "a[!]b", 1);
    }

    private static void twoWithAMinusBetween(Check check) {
        check.sentence("two with - between them (all from the one to the other)");
        check.dueSet(GLOB, "[a-e]", "abcde");
        check.dueSet(GLOB, "[a-a]", "a");
        check.dueSet(GLOB, "[a-cx-z]", "abcxyz");
        check.dueSet(GLOB, "[\\a-\\c]", "abc");
        check.dueSet(GLOB, "[--0]", "-./0");
        check.dueSet(GLOB, "[---]", "-");
        check.dueSet(GLOB, "[+--]", "+,-");
        check.dueSet(GLOB, "[a-c-e]", "-abce");
        check.dueSet(GLOB, "[^-a]", "^_`a");
        check.dueSet(GLOB, "[!--0]", Check.allBut("-./0"));
        check.dueSet(GLOB, "[]-^]", "]^");
        check.dueSet(GLOB, "[Z-[]", "Z[");
    }

    private static void theSecondLessThanTheFirst(Check check) {
        check.sentence("an error at the second one, at its \\ if it has one, when it is less than the first");
        check.dueError(GLOB, "[z-a]", 3);
        check.dueError(GLOB, "[b-a]", 3);
        check.dueSet(GLOB, "[b-b]", "b");
        check.dueError(GLOB, "[z-\\a]", 3);
        check.dueError(GLOB, "[\\z-\\a]", 4);
        check.dueError(GLOB, "[\\z-a]", 4);
        check.dueError(GLOB, "[!b-a]", 4);
        check.dueError(GLOB, "[a-[]", 3);
        check.dueError(GLOB, "[a-\\]]", 3);
        check.dueError(GLOB, "[]-\\[]", 3);
        check.dueError(GLOB, "[!]-A]", 4);
        check.dueError(GLOB, "[a-c-e-b]", 7);
    }

    private static void charactersOfABracket(Check check) {
        check.sentence("here a character is any one but ] and \\ , or \\ and any one");
        for (char c = 32; c <= 126; c++) {
            String alone = c == 'x' ? "x" : c < 'x' ? c + "x" : "x" + c;
            if (c != ']' && c != '\\') {
                check.dueSet(GLOB, "[x" + c + "]", alone);
            }
            check.dueSet(GLOB, "[x\\" + c + "]", alone);
            check.dueSet(GLOB, "[\\" + c + "x]", alone);
        }
        check.dueSet(GLOB, "[[]", "[");
        check.dueSet(GLOB, "[a\\-c]", "-ac");
        check.dueSet(GLOB, "[Z-\\]]", "Z[\\]");
    }

    private static void endOfBracketAsFirst(Check check) {
        check.sentence("] is itself as the first character behind [ or [!");
        check.dueSet(GLOB, "[]]", "]");
        check.dueSet(GLOB, "[]a]", "]a");
        check.dueSet(GLOB, "[!]]", Check.allBut("]"));
        check.dueSet(GLOB, "[!]a]", Check.allBut("]a"));
        check.dueSet(GLOB, "[]-a]", "]^_`a");
        check.dueMatches(GLOB, "[]]]", true, "]]");
        check.dueMatches(GLOB, "[!!]]", true, "a]");
        check.dueMatches(GLOB, "[\\a]]", true, "a]");
    }

    private static void minusBeforeTheEnd(Check check) {
        check.sentence("- does not stand between two when ] is behind it");
        check.dueSet(GLOB, "[a-]", "-a");
        check.dueSet(GLOB, "[!a-]", Check.allBut("-a"));
        check.dueSet(GLOB, "[]-]", "-]");
        check.dueSet(GLOB, "[-]", "-");
        check.dueSet(GLOB, "[--]", "-");
        check.dueSet(GLOB, "[-a]", "-a");
        check.dueSet(GLOB, "[a-c-]", "-abc");
        check.dueSet(GLOB, "[a\\]-]", "-]a");
        check.dueMatches(GLOB, "[a-]b]", true, "ab]", "-b]");
        check.dueMatches(GLOB, "[a-]b]", false, "a", "]", "b");
    }

    private static void noEnd(Check check) {
        check.sentence("When there is no ] that ends it, or a \\ has nothing behind it, the error is at the [");
        check.dueError(GLOB, "[", 0);
        check.dueError(GLOB, "x[", 1);
        check.dueError(GLOB, "[!", 0);
        check.dueError(GLOB, "a[bc", 1);
        check.dueError(GLOB, "a[b-", 1);
        check.dueError(GLOB, "a[b-c", 1);
        check.dueError(GLOB, "a[b\\", 1);
        check.dueError(GLOB, "a[\\", 1);
        check.dueError(GLOB, "a[b-\\", 1);
        check.dueError(GLOB, "a[b\\]", 1);
        check.dueError(GLOB, "[]\\", 0);
        check.dueError(GLOB, "[a][", 3);
        check.dueError(GLOB, "[a[b", 0);
        check.dueError(GLOB, "a".repeat(47) + "[", 47);
    }

    private static void anErrorBeforeThat(Check check) {
        check.sentence("unless there was another one before that, reading from the left");
        check.dueError(GLOB, "[z-a", 3);
        check.dueError(GLOB, "x[z-\\a\\", 4);
        check.dueError(GLOB, "[z-\\", 0);
        check.dueError(GLOB, "[z-", 0);
    }
}
