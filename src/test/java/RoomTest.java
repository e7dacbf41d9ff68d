import java.lang.management.ManagementFactory;

/** That the calls of a run make next to nothing: all rows are made by the constructor. */
public final class RoomTest {
    private static final String[] PATTERNS = {
        "((((a{9}){9}){9}){9}){9}", "c{9}c{9}c{8}[ab]*a[ab]{4}", "[a-e-[b-d-[c]]]+", "(|)".repeat(16), "[z-a]", "((((("
    };

    public static void main(String[] args) {
        Check check = new Check("RoomTest");
        run(new PatternDialects());
        long before = allocated();
        PatternDialects x = new PatternDialects();
        long made = allocated();
        run(x);
        long behind = allocated();
        System.out.println("made by the constructor: " + (made - before) + " bytes, by the calls: " + (behind - made));
        check.due("the constructor stays small", made - before < 400_000, true);
        check.due("the calls make nothing", behind - made < 10_000, true);
        check.end();
    }

    private static void run(PatternDialects x) {
        for (int round = 0; round < 2; round++) {
            for (int k = 0; k < PATTERNS.length; k++) {
                Check.write(x, PATTERNS[k]);
                x.compile(k % 4, Check.REGEX);
                x.compile((k + 1) % 4, round % 3);
                x.matches(k % 4);
                x.kinds(k % 4);
                x.within(k % 4, (k + 1) % 4);
                x.witness((k + 1) % 4, k % 4);
                x.words(k % 4, 48);
            }
        }
    }

    private static long allocated() {
        com.sun.management.ThreadMXBean bean = (com.sun.management.ThreadMXBean) ManagementFactory.getThreadMXBean();
        return bean.getThreadAllocatedBytes(Thread.currentThread().getId());
    }
}
