/** Promise 6, the grammar of LIKE. */
public final class LikeTest {
    private static final int LIKE = Check.LIKE;

    public static void main(String[] args) {
        Check check = new Check("LikeTest");
        check.dueSet(LIKE, "_", Check.allBut(""));
        check.dueSet(LIKE, "\\_", "_");
        check.dueSet(LIKE, "\\%", "%");
        check.dueSet(LIKE, "\\\\", "\\");
        for (char c : "*?[]{}(),!-^.|/+".toCharArray()) {
            check.dueSet(LIKE, String.valueOf(c), String.valueOf(c));
        }
        check.dueMatches(LIKE, "", true, "");
        check.dueMatches(LIKE, "", false, " ");
        check.dueMatches(LIKE, "%", true, "", "a", "/%_");
        check.dueMatches(LIKE, "a%b_", true, "abx", "axxbb", "abbb");
        check.dueMatches(LIKE, "a%b_", false, "ab", "abxx", "xabx");
        check.dueMatches(LIKE, "\\%%", true, "%", "%a");
        check.dueMatches(LIKE, "\\%%", false, "", "a%");
        check.duePositions(LIKE, "%%", 2);
        check.dueError(LIKE, "\\", 0);
        check.dueError(LIKE, "a\\", 1);
        check.dueError(LIKE, "a\\bc", 1);
        check.dueError(LIKE, "\\\\\\", 2);
        check.dueError(LIKE, "\\_\\a\\", 2);
        check.dueError(LIKE, "\\*", 0);
        check.end();
    }
}
