/** Promise 6, the grammar of PATH. */
public final class PathTest {
    private static final int PATH = Check.PATH;

    public static void main(String[] args) {
        Check check = new Check("PathTest");
        slashes(check);
        lists(check);
        errors(check);
        check.end();
    }

    private static void slashes(Check check) {
        check.dueSet(PATH, "?", Check.allBut("/"));
        check.dueSet(PATH, "/", "/");
        check.dueSet(PATH, "\\/", "/");
        check.dueSet(PATH, "[/]", "");
        check.dueSet(PATH, "[.-0]", ".0");
        check.dueSet(PATH, "[!a]", Check.allBut("a/"));
        check.dueSet(PATH, "[!/]", Check.allBut("/"));
        check.dueMatches(PATH, "*", true, "", "abc");
        check.dueMatches(PATH, "*", false, "/", "a/b");
        check.dueMatches(PATH, "**", true, "", "abc", "/", "a/b");
        check.dueMatches(PATH, "a/**/b", true, "a//b", "a/x/b", "a/x/y/b");
        check.dueMatches(PATH, "a/**/b", false, "a/b", "ab");
        check.dueMatches(PATH, "***", true, "", "a/b/c");
        check.duePositions(PATH, "*", 1);
        check.duePositions(PATH, "**", 1);
        check.duePositions(PATH, "***", 2);
        check.duePositions(PATH, "****", 2);
        check.duePositions(PATH, "*****", 3);
        check.duePositions(PATH, "\\**", 2);
        check.duePositions(PATH, "*{*}", 2);
        check.dueMatches(PATH, "*{*}", false, "/");
        check.dueMatches(PATH, "\\**", true, "*", "*a");
        check.dueMatches(PATH, "\\**", false, "", "*/");
    }

    private static void lists(Check check) {
        check.dueMatches(PATH, "{a,bc}d", true, "ad", "bcd");
        check.dueMatches(PATH, "{a,bc}d", false, "abcd", "d", "{a,bc}d");
        check.dueMatches(PATH, "{}", true, "");
        check.dueMatches(PATH, "x{,a,}", true, "x", "xa");
        check.dueMatches(PATH, "{a{b,c},d}", true, "ab", "ac", "d");
        check.dueMatches(PATH, "{a,{b,{c,d}}}e", true, "ae", "be", "ce", "de");
        check.dueMatches(PATH, "{a}{b}{c}{d}", true, "abcd");
        check.dueMatches(PATH, "a,b}", true, "a,b}");
        check.dueMatches(PATH, "{a}}", true, "a}");
        check.dueMatches(PATH, "{a},b", true, "a,b");
        check.dueMatches(PATH, "{a\\,b,c}", true, "a,b", "c");
        check.dueMatches(PATH, "{a\\}b,c}", true, "a}b", "c");
        check.dueMatches(PATH, "\\{a,b}", true, "{a,b}");
        check.dueMatches(PATH, "{[,],a}", true, ",", "a");
        check.dueMatches(PATH, "{[},],[{]}", true, "}", ",", "{");
        check.dueMatches(PATH, "{*,**/}x", true, "ax", "x", "a/b/x");
        check.dueMatches(PATH, "{*,**/}x", false, "a/bx");
        check.duePositions(PATH, "{a,bc}d", 4);
        check.duePositions(PATH, "{}", 0);
    }

    private static void errors(Check check) {
        check.dueError(PATH, "{", 0);
        check.dueError(PATH, "a{b,c", 1);
        check.dueError(PATH, "{a{b", 2);
        check.dueError(PATH, "{a{b}", 0);
        check.dueError(PATH, "{{}{", 3);
        check.dueError(PATH, "{{{{a}}}}", 3);
        check.dueError(PATH, "{{{{", 3);
        check.dueError(PATH, "{{{{[z-a]", 3);
        check.dueError(PATH, "{{{}}{{{", 7);
        check.dueError(PATH, "{a\\", 2);
        check.dueError(PATH, "{a\\}", 0);
        check.dueError(PATH, "{a[b}", 2);
        check.dueError(PATH, "{[z-a", 4);
        check.dueError(PATH, "{[}", 1);
        check.dueError(PATH, "\\", 0);
        check.dueError(PATH, "[/", 0);
        check.dueError(PATH, "[0-/]", 3);
    }
}
