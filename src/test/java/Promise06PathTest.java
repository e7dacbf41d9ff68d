/** Promise 6, the grammar of PATH. */
public final class Promise06PathTest {
    private static final int PATH = Check.PATH;

    public static void main(String[] args) {
        Check check = new Check("Promise06PathTest");
        asGlob(check);
        questionMarkWithoutSlash(check);
        bracketWithoutSlash(check);
        oneStar(check);
        twoStars(check);
        moreStars(check);
        lists(check);
        branchesOfNothing(check);
        signsOfAList(check);
        signsOutsideOfLists(check);
        atMostThreeDeep(check);
        aListThatDoesNotEnd(check);
        check.end();
    }

    private static void asGlob(Check check) {
        check.sentence("as GLOB");
        for (char c = 32; c <= 126; c++) {
            check.dueSet(PATH, "\\" + c, String.valueOf(c));
            if ("?*[\\{".indexOf(c) < 0) {
                check.dueSet(PATH, String.valueOf(c), String.valueOf(c));
            }
        }
        check.dueSet(PATH, "[]a-]", "-]a");
        check.dueError(PATH, "\\", 0);
        check.dueError(PATH, "[/", 0);
        check.dueError(PATH, "[]", 0);
        check.dueError(PATH, "[0-/]", 3);
        check.dueError(PATH, "[b-\\a]", 3);
    }

    private static void questionMarkWithoutSlash(Check check) {
        check.sentence("? is without /");
        check.dueSet(PATH, "?", Check.allBut("/"));
        check.dueSet(PATH, "/", "/");
        check.dueSet(PATH, "\\/", "/");
    }

    private static void bracketWithoutSlash(Check check) {
        check.sentence("every bracket is without /");
        check.dueSet(PATH, "[/]", "");
        check.dueSet(PATH, "[\\/]", "");
        check.dueSet(PATH, "[.-0]", ".0");
        check.dueSet(PATH, "[!a]", Check.allBut("a/"));
        check.dueSet(PATH, "[!/]", Check.allBut("/"));
        check.dueSet(PATH, "[ -~]", Check.allBut("/"));
        check.dueSet(PATH, "[! -.0-~]", "");
    }

    private static void oneStar(Check check) {
        check.sentence("* is that ? times 0 and more");
        check.dueMatches(PATH, "*", true, "", "abc", "~".repeat(48));
        check.dueMatches(PATH, "*", false, "/", "a/b", "/a", "a/");
        check.duePositions(PATH, "*", 1);
        check.dueMatches(PATH, "*/*", true, "/", "a/b");
        check.dueMatches(PATH, "*/*", false, "", "a", "a/b/c");
    }

    private static void twoStars(Check check) {
        check.sentence("** (two stars) is ANY times 0 and more");
        check.dueMatches(PATH, "**", true, "", "abc", "/", "a/b", "/".repeat(48));
        check.duePositions(PATH, "**", 1);
        check.dueMatches(PATH, "a/**/b", true, "a//b", "a/x/b", "a/x/y/b");
        check.dueMatches(PATH, "a/**/b", false, "a/b", "ab");
        check.duePositions(PATH, "\\**", 2);
        check.dueMatches(PATH, "\\**", true, "*", "*a");
        check.dueMatches(PATH, "\\**", false, "", "*/");
        check.dueMatches(PATH, "*\\*", false, "/*", "a/");
        check.duePositions(PATH, "*{*}", 2);
        check.dueMatches(PATH, "*{*}", false, "/");
        check.dueMatches(PATH, "{*}*", false, "/");
        check.dueMatches(PATH, "{*,*}", false, "/");
        check.dueMatches(PATH, "[*]*", false, "*/");
    }

    private static void moreStars(Check check) {
        check.sentence("of three or more stars the first two go together, then the next two or one");
        check.duePositions(PATH, "***", 2);
        check.duePositions(PATH, "****", 2);
        check.duePositions(PATH, "*****", 3);
        check.duePositions(PATH, "*".repeat(48), 24);
        check.dueMatches(PATH, "***", true, "", "a/b/c");
        // A single star in front of the two would have to keep apart what has had a slash: five states, not four.
        check.dueStates(PATH, "***x", 4);
        check.dueStates(PATH, "****x", 3);
        check.dueStates(PATH, "*****x", 4);
    }

    private static void lists(Check check) {
        check.sentence("{ begins a list: patterns with , between them and } behind the last one: the choice of these");
        check.dueMatches(PATH, "{a,bc}d", true, "ad", "bcd");
        check.dueMatches(PATH, "{a,bc}d", false, "abcd", "d", "{a,bc}d");
        check.dueMatches(PATH, "{a}", true, "a");
        check.dueMatches(PATH, "{a{b,c},d}", true, "ab", "ac", "d");
        check.dueMatches(PATH, "{a{b,c},d}", false, "a", "ad", "abd");
        check.dueMatches(PATH, "{*,**/}x", true, "ax", "x", "a/b/x");
        check.dueMatches(PATH, "{*,**/}x", false, "a/bx");
        check.duePositions(PATH, "{a,bc}d", 4);
    }

    private static void branchesOfNothing(Check check) {
        check.sentence("each a join, perhaps of nothing");
        check.dueMatches(PATH, "{}", true, "");
        check.dueMatches(PATH, "{}", false, "{}", "a");
        check.duePositions(PATH, "{}", 0);
        check.dueMatches(PATH, "{,}", true, "");
        check.dueMatches(PATH, "x{,a,}", true, "x", "xa");
        check.dueMatches(PATH, "x{,a,}", false, "", "xaa");
        check.dueMatches(PATH, "x{a,,b}y", true, "xy", "xay", "xby");
        check.dueMatches(PATH, "{{},{{}}}", true, "");
    }

    private static void signsOfAList(Check check) {
        check.sentence("In a list a , or } that stands in no bracket and behind no \\ belongs to it");
        check.dueMatches(PATH, "{a\\,b,c}", true, "a,b", "c");
        check.dueMatches(PATH, "{a\\,b,c}", false, "a", "b,c");
        check.dueMatches(PATH, "{a\\}b,c}", true, "a}b", "c");
        check.dueMatches(PATH, "{[,],a}", true, ",", "a");
        check.dueMatches(PATH, "{[},],[{]}", true, "}", ",", "{");
        check.dueMatches(PATH, "{a{b},c}", true, "ab", "c");
        check.dueMatches(PATH, "{\\\\,c}", true, "\\", "c");
        check.dueError(PATH, "{a\\}", 0);
    }

    private static void signsOutsideOfLists(Check check) {
        check.sentence("outside of lists these are themselves");
        check.dueSet(PATH, ",", ",");
        check.dueSet(PATH, "}", "}");
        check.dueMatches(PATH, "a,b}", true, "a,b}");
        check.dueMatches(PATH, "{a}}", true, "a}");
        check.dueMatches(PATH, "{a},b", true, "a,b");
        check.dueMatches(PATH, "\\{a,b}", true, "{a,b}");
        check.dueMatches(PATH, "[{]a,b}", true, "{a,b}");
    }

    private static void atMostThreeDeep(Check check) {
        check.sentence("Lists stand in one another at most 3 deep: the error is at the { of a fourth one");
        check.dueMatches(PATH, "{a,{b,{c,d}}}e", true, "ae", "be", "ce", "de");
        check.dueMatches(PATH, "{{{a}}}{{{b}}}", true, "ab");
        check.dueMatches(PATH, "{a}{b}{c}{d}{e}", true, "abcde");
        check.dueMatches(PATH, "{{a}{b},{{c}{d}}}", true, "ab", "cd");
        check.dueMatches(PATH, "{{{\\{[{]}}}", true, "{{");
        check.dueError(PATH, "{{{{a}}}}", 3);
        check.dueError(PATH, "{{{{", 3);
        check.dueError(PATH, "{a,{b,{c,{d}}}}", 9);
        check.dueError(PATH, "{{{}}{{{", 7);
        check.dueError(PATH, "{{{}}}{{{{", 9);
    }

    private static void aListThatDoesNotEnd(Check check) {
        check.sentence("and at the { of one that does not end (of several of them the one in the others)");
        check.dueError(PATH, "{", 0);
        check.dueError(PATH, "a{b,c", 1);
        check.dueError(PATH, "{a{b", 2);
        check.dueError(PATH, "{a{b,{c", 5);
        check.dueError(PATH, "{a{b}", 0);
        check.dueError(PATH, "{{}{", 3);
        check.dueError(PATH, "{a}{", 3);
        check.dueError(PATH, "{a\\", 2);
        check.dueError(PATH, "{a[b}", 2);
        check.dueError(PATH, "{[}", 1);
        check.dueError(PATH, "{[z-a", 4);
        check.dueError(PATH, "a".repeat(47) + "{", 47);
    }
}
