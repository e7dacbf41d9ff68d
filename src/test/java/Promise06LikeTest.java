/** Promise 6, the grammar of LIKE. */
public final class Promise06LikeTest {
    private static final int LIKE = Check.LIKE;
    private static final String SIGNS = "_%\\";

    public static void main(String[] args) {
        Check check = new Check("Promise06LikeTest");
        anyAndMany(check);
        escapes(check);
        otherEscapes(check);
        anyOtherCharacter(check);
        check.end();
    }

    private static void anyAndMany(Check check) {
        check.sentence("_ is ANY; % is ANY times 0 and more");
        check.dueSet(LIKE, "_", Check.allBut(""));
        check.dueMatches(LIKE, "%", true, "", "a", "/%_", "~".repeat(48));
        check.duePositions(LIKE, "%%", 2);
        check.dueMatches(LIKE, "a%b_", true, "abx", "axxbb", "abbb");
        check.dueMatches(LIKE, "a%b_", false, "", "ab", "abxx", "xabx");
    }

    private static void escapes(Check check) {
        check.sentence("\\ and one of _ % \\ is that character");
        for (char c : SIGNS.toCharArray()) {
            check.dueSet(LIKE, "\\" + c, String.valueOf(c));
        }
        check.dueMatches(LIKE, "\\%%", true, "%", "%a");
        check.dueMatches(LIKE, "\\%%", false, "", "a%");
        check.dueMatches(LIKE, "\\\\_", true, "\\a");
    }

    private static void otherEscapes(Check check) {
        check.sentence("any other \\ an error at the \\");
        for (char c = 32; c <= 126; c++) {
            if (SIGNS.indexOf(c) < 0) {
                check.dueError(LIKE, "\\" + c, 0);
                check.dueError(LIKE, "a_\\" + c + "b", 2);
            }
        }
        check.dueError(LIKE, "\\", 0);
        check.dueError(LIKE, "a\\", 1);
        check.dueError(LIKE, "\\\\\\", 2);
        check.dueError(LIKE, "\\_\\a\\", 2);
        check.dueError(LIKE, "a".repeat(47) + "\\", 47);
    }

    private static void anyOtherCharacter(Check check) {
        check.sentence("any other character is itself");
        for (char c = 32; c <= 126; c++) {
            if (SIGNS.indexOf(c) < 0) {
                check.dueSet(LIKE, String.valueOf(c), String.valueOf(c));
            }
        }
        check.dueMatches(LIKE, "[a]*?", true, "[a]*?");
    }
}
