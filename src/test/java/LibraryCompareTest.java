import java.nio.file.FileSystems;
import java.nio.file.Path;
import java.nio.file.PathMatcher;
import java.util.Random;
import java.util.regex.Pattern;

/**
 * Promise 7 on many made-up patterns of REGEX and PATH, the same every time, against what the Java library takes for words
 * of them: a judge that shares no reading of the document with this project. Only patterns without an error are made.
 */
public final class LibraryCompareTest {
    private static final int PATTERNS = 20_000;
    private static final int WORDS = 10;
    private static final String[] QUANTIFIERS = {
        "", "", "", "", "?", "*", "+", "{0}", "{1}", "{2}", "{0,}", "{1,}", "{2,}", "{0,2}", "{1,3}", "{2,4}"
    };
    private static final String[] ATOMS = {
        "a", "b", "c", "a", "b", "/", "_", " ", ".", "\\w", "\\d", "\\s", "\\D", "\\W", "\\S", "\\.", "\\-", "\\^", "\\|",
        "\\\\", "^", "$", "-", "&", "#"
    };
    private static final String[] ITEMS = {
        "a", "b", "a-c", "\\d", "\\W", "\\-", "\\]", "A-Z", "\\S", "\\s", "&", ".", "(", "|", "*", "+-\\]", "#-^", " -~",
        "\\D", "\\w"
    };
    private static final String[] OF_PATHS = {
        "a", "b", "/", "a/", "?", "*", "**", "***", "[ab]", "[!a]", "[a-c]", "[!b-z]", "\\a", "\\*", "\\{", "\\,", "\\[",
        "ab", "c", "[-a]", "[!-a]", "."
    };
    private static final String[] LETTERS = {"ab", "ab/", "abcz/-]*_ 19}^.$&#|\\AQ(", "abc/-,*{z[."};

    private final Random random = new Random(20261115);
    private final Check check = new Check("LibraryCompareTest");
    private int taken;

    public static void main(String[] args) {
        LibraryCompareTest test = new LibraryCompareTest();
        for (int k = 0; k < PATTERNS; k++) {
            test.compareRegex();
            test.comparePath();
        }
        test.check.due("there were words that are taken", test.taken > PATTERNS, true);
        test.check.end();
    }

    private void compareRegex() {
        StringBuilder made = new StringBuilder();
        makeChoice(made, 0);
        String pattern = made.toString();
        PatternDialects x = compiled(Check.REGEX, pattern);
        if (x == null) {
            return;
        }
        Pattern judge = Pattern.compile(new Translation(pattern).whole());
        for (int k = 0; k < WORDS; k++) {
            String word = makeWord();
            compareWord(x, pattern, word, judge.matcher(word).matches());
        }
    }

    private void comparePath() {
        StringBuilder made = new StringBuilder();
        makePath(made, false);
        String pattern = made.toString();
        PatternDialects x = compiled(Check.PATH, pattern);
        if (x == null) {
            return;
        }
        PathMatcher judge = FileSystems.getDefault().getPathMatcher("glob:" + pattern);
        for (int k = 0; k < WORDS; k++) {
            String word = makeWord();
            Path path = Path.of(word);
            // The library leaves out slashes that are not needed, which would be another word.
            if (path.toString().equals(word)) {
                compareWord(x, pattern, word, judge.matches(path));
            }
        }
    }

    private void compareWord(PatternDialects x, String pattern, String word, boolean isWord) {
        Check.write(x, word);
        check.due(pattern + " takes " + word, x.matches(0), isWord ? 1 : 0);
        taken += isWord ? 1 : 0;
    }

    /** A new object with the pattern in slot 0, or null when the pattern is too long or too big for it. */
    private PatternDialects compiled(int dialect, String pattern) {
        if (pattern.length() > 48) {
            return null;
        }
        PatternDialects x = new PatternDialects();
        int answer = Check.compile(x, 0, dialect, pattern);
        if (answer == PatternDialects.TOO_BIG) {
            return null;
        }
        check.due("there is no error in " + pattern, answer > 0, true);
        return answer > 0 ? x : null;
    }

    private String oneOf(String[] choices) {
        return choices[random.nextInt(choices.length)];
    }

    private void makeChoice(StringBuilder pattern, int depth) {
        int branches = random.nextInt(3) == 0 ? 2 : 1;
        for (int branch = 0; branch < branches; branch++) {
            pattern.append(branch > 0 ? "|" : "");
            int pieces = random.nextInt(4);
            for (int piece = 0; piece < pieces; piece++) {
                makeAtom(pattern, depth);
                pattern.append(oneOf(QUANTIFIERS));
            }
        }
    }

    private void makeAtom(StringBuilder pattern, int depth) {
        int kind = random.nextInt(7);
        if (kind < 2 && depth < 4) {
            pattern.append('(');
            makeChoice(pattern, depth + 1);
            pattern.append(')');
        } else if (kind == 2) {
            makeClass(pattern, 1);
        } else {
            pattern.append(oneOf(ATOMS));
        }
    }

    private void makeClass(StringBuilder pattern, int level) {
        pattern.append(random.nextInt(3) == 0 ? "[^" : "[");
        int items = 1 + random.nextInt(3);
        for (int item = 0; item < items; item++) {
            pattern.append(oneOf(ITEMS));
            pattern.append(random.nextInt(8) == 0 ? "^" : "");
        }
        if (level < 3 && random.nextInt(3) == 0) {
            pattern.append('-');
            makeClass(pattern, level + 1);
        }
        pattern.append(']');
    }

    /** Lists do not stand in one another here: the library refuses that. */
    private void makePath(StringBuilder pattern, boolean isInList) {
        int parts = random.nextInt(5);
        for (int part = 0; part < parts; part++) {
            if (isInList || random.nextInt(4) != 0) {
                pattern.append(oneOf(OF_PATHS));
                continue;
            }
            int choices = 1 + random.nextInt(3);
            for (int choice = 0; choice < choices; choice++) {
                pattern.append(choice == 0 ? '{' : ',');
                makePath(pattern, true);
            }
            pattern.append('}');
        }
    }

    private String makeWord() {
        String letters = oneOf(LETTERS);
        StringBuilder word = new StringBuilder();
        int size = random.nextInt(7);
        for (int k = 0; k < size; k++) {
            word.append(letters.charAt(random.nextInt(letters.length())));
        }
        return word.toString();
    }

    /** A pattern of REGEX in the library's words: signs that only the library has are escaped, subtractions looked at ahead. */
    private static final class Translation {
        private final String pattern;
        private int place;

        Translation(String pattern) {
            this.pattern = pattern;
        }

        String whole() {
            StringBuilder all = new StringBuilder();
            while (place < pattern.length()) {
                char c = pattern.charAt(place);
                if (c == '[') {
                    all.append(ofClass());
                } else if (c == '\\') {
                    all.append(escape());
                } else {
                    place++;
                    all.append("^$-&#".indexOf(c) >= 0 ? "\\" : "").append(c);
                }
            }
            return all.toString();
        }

        private String escape() {
            place += 2;
            return pattern.substring(place - 2, place);
        }

        private String ofClass() {
            place++;
            StringBuilder set = new StringBuilder("[");
            if (pattern.charAt(place) == '^') {
                set.append('^');
                place++;
            }
            String without = "";
            while (pattern.charAt(place) != ']') {
                char c = pattern.charAt(place);
                if (c == '\\') {
                    set.append(escape());
                } else if (pattern.startsWith("-[", place)) {
                    place++;
                    without = "(?!" + ofClass() + ")";
                } else {
                    place++;
                    set.append("^&#".indexOf(c) >= 0 ? "\\" : "").append(c);
                }
            }
            place++;
            return "(?:" + without + set + "])";
        }
    }
}
