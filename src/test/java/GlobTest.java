/** Promise 6, the grammar of GLOB. */
public final class GlobTest {
    private static final int GLOB = Check.GLOB;

    public static void main(String[] args) {
        Check check = new Check("GlobTest");
        plainPatterns(check);
        brackets(check);
        errors(check);
        check.end();
    }

    private static void plainPatterns(Check check) {
        check.dueSet(GLOB, "?", Check.allBut(""));
        check.dueSet(GLOB, "\\?", "?");
        check.dueSet(GLOB, "\\a", "a");
        check.dueSet(GLOB, "\\\\", "\\");
        check.dueSet(GLOB, "]", "]");
        check.dueSet(GLOB, "{", "{");
        check.dueSet(GLOB, "}", "}");
        check.dueSet(GLOB, ",", ",");
        check.dueSet(GLOB, "/", "/");
        check.dueSet(GLOB, "!", "!");
        check.dueMatches(GLOB, "", true, "");
        check.dueMatches(GLOB, "", false, "a");
        check.dueMatches(GLOB, "a*b?c", true, "abxc", "a/b/c", "abbbbc", "a*b?c");
        check.dueMatches(GLOB, "a*b?c", false, "", "abc", "abxcd", "xabxc");
        check.dueMatches(GLOB, "**", true, "", "a", "a/b");
        check.duePositions(GLOB, "**", 2);
        check.dueMatches(GLOB, "{a,b}", true, "{a,b}");
        check.dueMatches(GLOB, "{a,b}", false, "a", "b");
    }

    private static void brackets(Check check) {
        check.dueSet(GLOB, "[abc]", "abc");
        check.dueSet(GLOB, "[a-e]", "abcde");
        check.dueSet(GLOB, "[a-a]", "a");
        check.dueSet(GLOB, "[a-cx-z]", "abcxyz");
        check.dueSet(GLOB, "[!a-y]", Check.allBut("abcdefghijklmnopqrstuvwxy"));
        check.dueSet(GLOB, "[a!]", "!a");
        check.dueSet(GLOB, "[!!]", Check.allBut("!"));
        check.dueSet(GLOB, "[]]", "]");
        check.dueSet(GLOB, "[]a]", "]a");
        check.dueSet(GLOB, "[!]]", Check.allBut("]"));
        check.dueSet(GLOB, "[!]a]", Check.allBut("]a"));
        check.dueSet(GLOB, "[]-a]", "]^_`a");
        check.dueSet(GLOB, "[]-]", "-]");
        check.dueSet(GLOB, "[a-]", "-a");
        check.dueSet(GLOB, "[-a]", "-a");
        check.dueSet(GLOB, "[-]", "-");
        check.dueSet(GLOB, "[--]", "-");
        check.dueSet(GLOB, "[---]", "-");
        check.dueSet(GLOB, "[--0]", "-./0");
        check.dueSet(GLOB, "[a-c-e]", "-abce");
        check.dueSet(GLOB, "[a-c-]", "-abc");
        check.dueSet(GLOB, "[a\\-c]", "-ac");
        check.dueSet(GLOB, "[\\a-\\c]", "abc");
        check.dueSet(GLOB, "[\\]]", "]");
        check.dueSet(GLOB, "[Z-\\]]", "Z[\\]");
        check.dueSet(GLOB, "[a\\]-]", "-]a");
        check.dueSet(GLOB, "[\\!a]", "!a");
        check.dueSet(GLOB, "[[]", "[");
        check.dueSet(GLOB, "[*?/]", "*/?");
        check.dueSet(GLOB, "[! -~]", "");
        check.dueMatches(GLOB, "[a]]", true, "a]");
        check.dueMatches(GLOB, "[a-]b]", true, "ab]", "-b]");
    }

    private static void errors(Check check) {
        check.dueError(GLOB, "\\", 0);
        check.dueError(GLOB, "ab\\", 2);
        check.dueError(GLOB, "ab\\\\\\", 4);
        check.dueError(GLOB, "[", 0);
        check.dueError(GLOB, "x[", 1);
        check.dueError(GLOB, "[!", 0);
        check.dueError(GLOB, "[]", 0);
        check.dueError(GLOB, "[!]", 0);
        check.dueError(GLOB, "a[bc", 1);
        check.dueError(GLOB, "a[b-", 1);
        check.dueError(GLOB, "a[b\\", 1);
        check.dueError(GLOB, "a[b-\\", 1);
        check.dueError(GLOB, "a[b\\]", 1);
        check.dueError(GLOB, "[z-a]", 3);
        check.dueError(GLOB, "[z-a", 3);
        check.dueError(GLOB, "[z-\\a]", 3);
        check.dueError(GLOB, "[\\z-\\a]", 4);
        check.dueError(GLOB, "[z-\\", 0);
        check.dueError(GLOB, "[a-[]", 3);
        check.dueError(GLOB, "[!b-a]", 4);
        check.dueError(GLOB, "[z-a]\\", 3);
        check.dueError(GLOB, "[a][", 3);
        check.dueError(GLOB, "[a-\\]]", 3);
    }
}
