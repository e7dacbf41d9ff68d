/** That the example of README.md does what it says there. */
public final class ExampleTest {
    public static void main(String[] args) {
        Check check = new Check("ExampleTest");
        PatternDialects x = new PatternDialects();
        write(x, "a*b");
        check.due("compile(0, 0)", x.compile(0, 0), 5);
        write(x, "a[0-9]+b");
        check.due("compile(1, 3)", x.compile(1, 3), 6);
        write(x, "a42b");
        check.due("matches(0)", x.matches(0), 1);
        check.due("matches(1)", x.matches(1), 1);
        check.due("words(0, 3)", x.words(0, 3), 95);
        check.due("within(1, 0)", x.within(1, 0), 1);
        check.due("within(0, 1)", x.within(0, 1), 0);
        check.due("witness(0, 1)", x.witness(0, 1), 2);
        check.due("the text", Check.textOf(x), "ab");
        write(x, "a[");
        check.due("compile(0, 0)", x.compile(0, 0), -2);
        check.due("states(0)", x.states(0), 5);
        check.end();
    }

    static void write(PatternDialects x, String text) {
        x.wipe();
        for (char c : text.toCharArray()) {
            x.type(c);
        }
    }
}
