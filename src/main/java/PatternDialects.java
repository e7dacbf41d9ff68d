import java.util.Arrays;

/** Patterns of four dialects, read from one text, as machines in four slots that can be run, counted and compared. */
public final class PatternDialects {
    public static final int NONE = -1;
    public static final int BAD = -100;
    public static final int TOO_BIG = -101;

    private static final int FIRST_CHARACTER = 32;
    private static final int LAST_CHARACTER = 126;
    private static final int CHARACTERS = LAST_CHARACTER - FIRST_CHARACTER + 1;
    private static final int MAX_TEXT = 48;
    private static final int SLOTS = 4;
    private static final int MAX_POSITIONS = 40;
    private static final int MAX_STATES = 60;
    private static final int MAX_LISTS = 3;
    private static final int MAX_GROUPS = 4;
    private static final int MAX_CLASSES = 3;
    private static final int MORE = -1;

    private final int[] text = new int[MAX_TEXT];
    private int textLength;
    private final Dialect[] dialects = {new Glob(false), new Glob(true), new Like(), new Regex()};
    private final Pattern pattern = new Pattern();
    private final Layout layout = new Layout();
    private final Comparison comparison = new Comparison();
    private final Machine[] machines = new Machine[SLOTS];
    private Machine spare = new Machine();

    public PatternDialects() {
        for (int slot = 0; slot < SLOTS; slot++) {
            machines[slot] = new Machine();
        }
    }

    public boolean type(int c) {
        if (c < FIRST_CHARACTER || c > LAST_CHARACTER || textLength >= MAX_TEXT) {
            return false;
        }
        text[textLength] = c;
        textLength++;
        return true;
    }

    public void wipe() {
        textLength = 0;
    }

    public int length() {
        return textLength;
    }

    public int at(int k) {
        return k < 0 || k >= textLength ? NONE : text[k];
    }

    public int compile(int slot, int dialect) {
        if (slot < 0 || slot >= SLOTS || dialect < 0 || dialect >= dialects.length) {
            return BAD;
        }
        int error = pattern.read(dialects[dialect], text, textLength);
        if (error != NONE) {
            return -1 - error;
        }
        // Built aside, so that the slot keeps its machine when this one is too big.
        if (!layout.spread(pattern.whole()) || !spare.build(layout)) {
            return TOO_BIG;
        }
        Machine built = spare;
        spare = machines[slot];
        machines[slot] = built;
        return built.stateCount;
    }

    public int matches(int slot) {
        if (!isFilled(slot)) {
            return BAD;
        }
        return machines[slot].takes(text, textLength) ? 1 : 0;
    }

    public int positions(int slot) {
        return isFilled(slot) ? machines[slot].positionCount : BAD;
    }

    public int states(int slot) {
        return isFilled(slot) ? machines[slot].stateCount : BAD;
    }

    public int kinds(int slot) {
        return isFilled(slot) ? machines[slot].countKinds() : BAD;
    }

    public int within(int slot, int other) {
        if (!isFilled(slot) || !isFilled(other)) {
            return BAD;
        }
        return comparison.findPair(machines[slot], machines[other]) == NONE ? 1 : 0;
    }

    public int witness(int slot, int other) {
        if (!isFilled(slot) || !isFilled(other)) {
            return BAD;
        }
        int pair = comparison.findPair(machines[slot], machines[other]);
        if (pair == NONE) {
            return NONE;
        }
        int size = comparison.wordSize(pair);
        if (size > MAX_TEXT) {
            return TOO_BIG;
        }
        comparison.spell(pair, text, size);
        textLength = size;
        return size;
    }

    public long words(int slot, int n) {
        if (!isFilled(slot) || n < 0 || n > MAX_TEXT) {
            return BAD;
        }
        return machines[slot].countWords(n);
    }

    private boolean isFilled(int slot) {
        return slot >= 0 && slot < SLOTS && machines[slot].stateCount > 0;
    }

    /** A set of characters, as bits: the first 64 characters in one long, the others in a second. */
    private static final class CharSet {
        private static final long ALL_OF_HIGH = (1L << (CHARACTERS - 64)) - 1;

        private long low;
        private long high;

        void clear() {
            low = 0;
            high = 0;
        }

        void add(int c) {
            int bit = c - FIRST_CHARACTER;
            if (bit < 64) {
                low |= 1L << bit;
            } else {
                high |= 1L << (bit - 64);
            }
        }

        void addRange(int from, int to) {
            for (int c = from; c <= to; c++) {
                add(c);
            }
        }

        void turnRound() {
            low = ~low;
            high = ~high & ALL_OF_HIGH;
        }

        void addAll(CharSet other) {
            low |= other.low;
            high |= other.high;
        }

        void removeAll(CharSet other) {
            low &= ~other.low;
            high &= ~other.high;
        }

        boolean has(int c) {
            int bit = c - FIRST_CHARACTER;
            return bit < 64 ? (low >>> bit & 1) != 0 : (high >>> (bit - 64) & 1) != 0;
        }
    }

    /** A set, a join of parts or a choice of parts, each of them times least to most (once, if nothing else is said). */
    private static final class Expression {
        static final int SET = 0;
        static final int JOIN = 1;
        static final int CHOICE = 2;

        private final CharSet set = new CharSet();
        private int kind;
        private int least;
        private int most;
        private int positionCount;
        private Expression firstPart;
        private Expression lastPart;
        private Expression next;

        void reset(int newKind) {
            kind = newKind;
            least = 1;
            most = 1;
            positionCount = 0;
            firstPart = null;
            lastPart = null;
            next = null;
        }

        void addPart(Expression part) {
            if (lastPart == null) {
                firstPart = part;
            } else {
                lastPart.next = part;
            }
            lastPart = part;
        }

        int copies() {
            return most == MORE ? least + 1 : most;
        }
    }

    /** A text that is being read from the left, and the expression that grows out of it. */
    private static final class Pattern {
        // One character makes two expressions at most (a choice and its first branch), and so does the beginning.
        private static final int MAX_EXPRESSIONS = 2 * MAX_TEXT + 2;

        private final Expression[] pool = new Expression[MAX_EXPRESSIONS];
        // By depth: what is open in one another, the whole being at 0, with the branch that is being read.
        private final Expression[] choices = new Expression[MAX_GROUPS + 1];
        private final Expression[] branches = new Expression[MAX_GROUPS + 1];
        private final int[] openedAt = new int[MAX_GROUPS + 1];
        private int used;
        private int depth;
        // What a quantifier may follow here, or null.
        private Expression repeatable;
        private int[] text = new int[0];
        private int length;
        private int place;
        private int fault;

        Pattern() {
            for (int k = 0; k < MAX_EXPRESSIONS; k++) {
                pool[k] = new Expression();
            }
            for (int k = 0; k <= MAX_GROUPS; k++) {
                choices[k] = pool[0];
                branches[k] = pool[0];
            }
        }

        /** Answers the place of the first error, or NONE. */
        int read(Dialect dialect, int[] newText, int newLength) {
            text = newText;
            length = newLength;
            place = 0;
            fault = NONE;
            used = 0;
            depth = 0;
            choices[0] = take(Expression.CHOICE);
            nextBranch();
            for (int step = 0; step < MAX_TEXT && place < length && !failed(); step++) {
                dialect.readNext(this);
            }
            if (depth > 0) {
                fail(openedAt[depth]);
            }
            return fault;
        }

        Expression whole() {
            return choices[0];
        }

        int peek() {
            return ahead(0);
        }

        int ahead(int distance) {
            int k = place + distance;
            return k < length ? text[k] : NONE;
        }

        void skip(int count) {
            place += count;
        }

        boolean failed() {
            return fault != NONE;
        }

        /** Only the first fault that is met counts. */
        void fail(int faultPlace) {
            if (fault == NONE) {
                fault = faultPlace;
            }
        }

        CharSet addSet() {
            Expression added = take(Expression.SET);
            added.set.clear();
            branches[depth].addPart(added);
            repeatable = added;
            return added.set;
        }

        void addCharacter(int c) {
            addSet().add(c);
        }

        CharSet addAny() {
            CharSet any = addSet();
            any.turnRound();
            return any;
        }

        void repeat(int least, int most) {
            if (repeatable == null) {
                fail(place);
                return;
            }
            repeatable.least = least;
            repeatable.most = most;
            repeatable = null;
        }

        void open(int maxDepth) {
            if (depth >= maxDepth || depth >= MAX_GROUPS) {
                fail(place);
                return;
            }
            depth++;
            openedAt[depth] = place;
            choices[depth] = take(Expression.CHOICE);
            nextBranch();
        }

        void nextBranch() {
            branches[depth] = take(Expression.JOIN);
            choices[depth].addPart(branches[depth]);
            repeatable = null;
        }

        void close() {
            if (depth == 0) {
                fail(place);
                return;
            }
            Expression closed = choices[depth];
            depth--;
            branches[depth].addPart(closed);
            repeatable = closed;
        }

        private Expression take(int kind) {
            Expression taken = pool[used];
            // The last one would be taken again rather than one that is not there; no text comes so far.
            used = Math.min(used + 1, MAX_EXPRESSIONS - 1);
            taken.reset(kind);
            return taken;
        }
    }

    /** A grammar: it reads what stands at the pattern's place, which is not its end, and goes on behind it or fails. */
    private abstract static class Dialect {
        abstract void readNext(Pattern pattern);

        /** What brackets and classes do alike with two characters that have a - between them. */
        static void addRange(Pattern pattern, CharSet set, int from, int to, int toPlace) {
            if (to < from) {
                pattern.fail(toPlace);
            } else {
                set.addRange(from, to);
            }
        }
    }

    /** GLOB, and PATH, which is GLOB with slashes kept apart and with lists. */
    private static final class Glob extends Dialect {
        private final boolean paths;
        private final CharSet slash = new CharSet();

        Glob(boolean paths) {
            this.paths = paths;
            if (paths) {
                slash.add('/');
            }
        }

        @Override
        void readNext(Pattern pattern) {
            int c = pattern.peek();
            if (paths && readOfList(pattern, c)) {
                return;
            }
            switch (c) {
                case '?':
                    pattern.addAny().removeAll(slash);
                    pattern.skip(1);
                    break;
                case '*':
                    readStars(pattern);
                    break;
                case '[':
                    readBracket(pattern);
                    break;
                case '\\':
                    readEscape(pattern);
                    break;
                default:
                    pattern.addCharacter(c);
                    pattern.skip(1);
                    break;
            }
        }

        private boolean readOfList(Pattern pattern, int c) {
            if (c == '{') {
                pattern.open(MAX_LISTS);
            } else if (c == ',' && pattern.depth > 0) {
                pattern.nextBranch();
            } else if (c == '}' && pattern.depth > 0) {
                pattern.close();
            } else {
                return false;
            }
            pattern.skip(1);
            return true;
        }

        private void readStars(Pattern pattern) {
            boolean isDouble = paths && pattern.ahead(1) == '*';
            CharSet set = pattern.addAny();
            if (!isDouble) {
                set.removeAll(slash);
            }
            pattern.repeat(0, MORE);
            pattern.skip(isDouble ? 2 : 1);
        }

        private static void readEscape(Pattern pattern) {
            int c = pattern.ahead(1);
            if (c == NONE) {
                pattern.fail(pattern.place);
                return;
            }
            pattern.addCharacter(c);
            pattern.skip(2);
        }

        private void readBracket(Pattern pattern) {
            int opened = pattern.place;
            CharSet set = pattern.addSet();
            pattern.skip(1);
            boolean turned = pattern.peek() == '!';
            if (turned) {
                pattern.skip(1);
            }
            readItem(pattern, set, opened);
            for (int item = 1; item < MAX_TEXT && !pattern.failed() && pattern.peek() != ']'; item++) {
                readItem(pattern, set, opened);
            }
            pattern.skip(1);
            if (turned) {
                set.turnRound();
            }
            set.removeAll(slash);
        }

        private static void readItem(Pattern pattern, CharSet set, int opened) {
            int from = readCharacter(pattern, opened);
            if (pattern.failed()) {
                return;
            }
            if (pattern.peek() != '-' || pattern.ahead(1) == ']') {
                set.add(from);
                return;
            }
            pattern.skip(1);
            int toPlace = pattern.place;
            int to = readCharacter(pattern, opened);
            if (!pattern.failed()) {
                addRange(pattern, set, from, to, toPlace);
            }
        }

        /** A bracket's character; that the text ends here is the bracket's own fault. */
        private static int readCharacter(Pattern pattern, int opened) {
            if (pattern.peek() == '\\') {
                pattern.skip(1);
            }
            int c = pattern.peek();
            if (c == NONE) {
                pattern.fail(opened);
                return NONE;
            }
            pattern.skip(1);
            return c;
        }
    }

    /** LIKE, where only its own signs can be escaped. */
    private static final class Like extends Dialect {
        private static final String ESCAPED = "_%\\";

        @Override
        void readNext(Pattern pattern) {
            int c = pattern.peek();
            switch (c) {
                case '_':
                    pattern.addAny();
                    break;
                case '%':
                    pattern.addAny();
                    pattern.repeat(0, MORE);
                    break;
                case '\\':
                    readEscape(pattern);
                    break;
                default:
                    pattern.addCharacter(c);
                    break;
            }
            pattern.skip(1);
        }

        private static void readEscape(Pattern pattern) {
            int c = pattern.ahead(1);
            if (c == NONE || ESCAPED.indexOf((char) c) < 0) {
                pattern.fail(pattern.place);
                return;
            }
            pattern.addCharacter(c);
            pattern.skip(1);
        }
    }

    /** REGEX; groups are the pattern's open choices, classes in one another are read by recursion. */
    private static final class Regex extends Dialect {
        private static final String ESCAPED = "\\|.?*+(){}[]-^";
        private static final String SET_LETTERS = "dwsDWS";
        private static final String NOT_ALONE_IN_CLASS = "[]\\-";

        private final CharSet[] subtracted = new CharSet[MAX_CLASSES];
        private final CharSet escapeSet = new CharSet();

        Regex() {
            for (int level = 0; level < MAX_CLASSES; level++) {
                subtracted[level] = new CharSet();
            }
        }

        /** What is called from here stops at the last character of what it reads. */
        @Override
        void readNext(Pattern pattern) {
            int c = pattern.peek();
            switch (c) {
                case '?':
                    pattern.repeat(0, 1);
                    break;
                case '*':
                    pattern.repeat(0, MORE);
                    break;
                case '+':
                    pattern.repeat(1, MORE);
                    break;
                case '{':
                    readCounts(pattern);
                    break;
                case '|':
                    pattern.nextBranch();
                    break;
                case '(':
                    pattern.open(MAX_GROUPS);
                    break;
                case ')':
                    pattern.close();
                    break;
                case '.':
                    pattern.addAny();
                    break;
                case '[':
                    readClass(pattern, pattern.addSet(), 1);
                    break;
                case '\\':
                    readEscape(pattern);
                    break;
                case '}':
                case ']':
                    pattern.fail(pattern.place);
                    break;
                default:
                    pattern.addCharacter(c);
                    break;
            }
            pattern.skip(1);
        }

        private static void readCounts(Pattern pattern) {
            int least = digit(pattern.ahead(1));
            if (least != NONE && pattern.ahead(2) == '}') {
                pattern.repeat(least, least);
                pattern.skip(2);
                return;
            }
            if (least == NONE || pattern.ahead(2) != ',') {
                pattern.fail(pattern.place);
                return;
            }
            if (pattern.ahead(3) == '}') {
                pattern.repeat(least, MORE);
                pattern.skip(3);
                return;
            }
            int most = digit(pattern.ahead(3));
            if (most < least || pattern.ahead(4) != '}') {
                pattern.fail(pattern.place);
                return;
            }
            pattern.repeat(least, most);
            pattern.skip(4);
        }

        private static int digit(int c) {
            return c >= '0' && c <= '9' ? c - '0' : NONE;
        }

        private void readEscape(Pattern pattern) {
            int letter = pattern.ahead(1);
            if (isOneOf(SET_LETTERS, letter)) {
                addEscapeSet(pattern.addSet(), letter);
            } else if (isOneOf(ESCAPED, letter)) {
                pattern.addCharacter(letter);
            } else {
                pattern.fail(pattern.place);
            }
            pattern.skip(1);
        }

        private void addEscapeSet(CharSet set, int letter) {
            escapeSet.clear();
            switch (letter) {
                case 's':
                case 'S':
                    escapeSet.add(' ');
                    break;
                case 'w':
                case 'W':
                    escapeSet.addRange('a', 'z');
                    escapeSet.addRange('A', 'Z');
                    escapeSet.add('_');
                    escapeSet.addRange('0', '9');
                    break;
                default:
                    escapeSet.addRange('0', '9');
                    break;
            }
            if (letter < 'a') {
                escapeSet.turnRound();
            }
            set.addAll(escapeSet);
        }

        private void readClass(Pattern pattern, CharSet set, int level) {
            pattern.skip(1);
            boolean turned = pattern.peek() == '^';
            if (turned) {
                pattern.skip(1);
            }
            readItem(pattern, set);
            for (int item = 1; item < MAX_TEXT && !pattern.failed() && !isBehindItems(pattern); item++) {
                readItem(pattern, set);
            }
            if (turned) {
                set.turnRound();
            }
            if (!pattern.failed() && pattern.peek() == '-') {
                if (level >= MAX_CLASSES) {
                    pattern.fail(pattern.place);
                    return;
                }
                CharSet without = subtracted[level];
                without.clear();
                pattern.skip(1);
                readClass(pattern, without, level + 1);
                pattern.skip(1);
                set.removeAll(without);
            }
            if (pattern.peek() != ']') {
                pattern.fail(pattern.place);
            }
        }

        private static boolean isBehindItems(Pattern pattern) {
            int c = pattern.peek();
            return c == ']' || c == '-' && pattern.ahead(1) == '[';
        }

        private void readItem(Pattern pattern, CharSet set) {
            if (pattern.peek() == '\\' && isOneOf(SET_LETTERS, pattern.ahead(1))) {
                addEscapeSet(set, pattern.ahead(1));
                pattern.skip(2);
                return;
            }
            int from = readCharacter(pattern);
            if (pattern.failed()) {
                return;
            }
            if (pattern.peek() != '-' || pattern.ahead(1) == '[') {
                set.add(from);
                return;
            }
            pattern.skip(1);
            int toPlace = pattern.place;
            int to = readCharacter(pattern);
            if (!pattern.failed()) {
                addRange(pattern, set, from, to, toPlace);
            }
        }

        private static int readCharacter(Pattern pattern) {
            int c = pattern.peek();
            if (c == '\\' && isOneOf(ESCAPED, pattern.ahead(1))) {
                int escaped = pattern.ahead(1);
                pattern.skip(2);
                return escaped;
            }
            if (c == NONE || isOneOf(NOT_ALONE_IN_CLASS, c)) {
                pattern.fail(pattern.place);
                return NONE;
            }
            pattern.skip(1);
            return c;
        }

        private static boolean isOneOf(String characters, int c) {
            return c != NONE && characters.indexOf((char) c) >= 0;
        }
    }

    /** The positions of an expression, with FIRST, LAST and FOLLOW; sets of positions are bits of a long. */
    private static final class Layout {
        // Five choices in one another (the whole and four groups) with their joins, then a set: two rows for each.
        private static final int ROWS = 2 * (2 * (MAX_GROUPS + 1) + 1);

        private final long[] follow = new long[MAX_POSITIONS];
        // For each character the positions with it in their sets.
        private final long[] holders = new long[CHARACTERS];
        // A row is what is known of an expression that is being laid out; its parts are in the rows behind it.
        private final long[] first = new long[ROWS];
        private final long[] last = new long[ROWS];
        private final boolean[] empty = new boolean[ROWS];
        private int count;

        /** False when there are too many positions. */
        boolean spread(Expression whole) {
            if (measure(whole, 0) > MAX_POSITIONS) {
                return false;
            }
            count = 0;
            Arrays.fill(holders, 0);
            put(whole, 0);
            return true;
        }

        long wholeFirst() {
            return first[0];
        }

        long wholeLast() {
            return last[0];
        }

        boolean wholeEmpty() {
            return empty[0];
        }

        private static int measure(Expression expression, int depth) {
            int once = expression.kind == Expression.SET ? 1 : 0;
            if (depth < ROWS) {
                for (Expression part = expression.firstPart; part != null; part = part.next) {
                    once += measure(part, depth + 1);
                }
            }
            expression.positionCount = once * expression.copies();
            return expression.positionCount;
        }

        /** Lays out all copies of an expression; what is known of them is left in a row. */
        private void put(Expression expression, int row) {
            clear(row, true);
            // Without positions there is only the empty word, however often: not to be counted out.
            if (expression.positionCount == 0 || row + 1 >= ROWS) {
                return;
            }
            int copies = expression.copies();
            for (int copy = 0; copy < copies; copy++) {
                putOnce(expression, row + 1);
                if (copy >= expression.least) {
                    empty[row + 1] = true;
                    if (expression.most == MORE) {
                        link(last[row + 1], first[row + 1]);
                    }
                }
                join(row, row + 1);
            }
        }

        private void putOnce(Expression expression, int row) {
            clear(row, expression.kind == Expression.JOIN);
            if (expression.kind == Expression.SET) {
                putSet(expression.set, row);
                return;
            }
            if (row + 1 >= ROWS) {
                return;
            }
            for (Expression part = expression.firstPart; part != null; part = part.next) {
                put(part, row + 1);
                if (expression.kind == Expression.JOIN) {
                    join(row, row + 1);
                } else {
                    choose(row, row + 1);
                }
            }
        }

        private void putSet(CharSet set, int row) {
            if (count >= MAX_POSITIONS) {
                return;
            }
            long bit = 1L << count;
            follow[count] = 0;
            count++;
            for (int c = 0; c < CHARACTERS; c++) {
                if (set.has(c + FIRST_CHARACTER)) {
                    holders[c] |= bit;
                }
            }
            first[row] = bit;
            last[row] = bit;
        }

        private void clear(int row, boolean isEmpty) {
            first[row] = 0;
            last[row] = 0;
            empty[row] = isEmpty;
        }

        private void join(int row, int behind) {
            link(last[row], first[behind]);
            if (empty[row]) {
                first[row] |= first[behind];
            }
            last[row] = empty[behind] ? last[row] | last[behind] : last[behind];
            empty[row] = empty[row] && empty[behind];
        }

        private void choose(int row, int other) {
            first[row] |= first[other];
            last[row] |= last[other];
            empty[row] = empty[row] || empty[other];
        }

        private void link(long from, long to) {
            for (int p = 0; p < count; p++) {
                if ((from >>> p & 1) != 0) {
                    follow[p] |= to;
                }
            }
        }

        long followOfAny(long positions) {
            long reached = 0;
            for (int p = 0; p < count; p++) {
                if ((positions >>> p & 1) != 0) {
                    reached |= follow[p];
                }
            }
            return reached;
        }
    }

    /** The states of a pattern, 0 being the beginning; no states at all stand for no machine. */
    private static final class Machine {
        private final long[] positionsOf = new long[MAX_STATES];
        private final boolean[] accepts = new boolean[MAX_STATES];
        private int positionCount;
        private int stateCount;

        // Characters that the same positions hold lead alike from every state: they are kept as one group.
        private final int[] groupOf = new int[CHARACTERS];
        private final int[] groupSize = new int[CHARACTERS];
        private final long[] groupHolders = new long[CHARACTERS];
        private int groupCount;
        private final int[] next = new int[MAX_STATES * CHARACTERS];

        private final int[] kindOf = new int[MAX_STATES];
        private final int[] finerKindOf = new int[MAX_STATES];
        private final int[] modelOf = new int[MAX_STATES];
        private final long[] ways = new long[MAX_STATES];
        private final long[] laterWays = new long[MAX_STATES];

        /** False when there are too many states; the machine is of no use then. */
        boolean build(Layout layout) {
            groupCharacters(layout.holders);
            positionCount = layout.count;
            positionsOf[0] = 0;
            accepts[0] = layout.wholeEmpty();
            stateCount = 1;
            for (int state = 0; state < stateCount && state < MAX_STATES; state++) {
                long reached = state == 0 ? layout.wholeFirst() : layout.followOfAny(positionsOf[state]);
                for (int group = 0; group < groupCount; group++) {
                    int target = findState(reached & groupHolders[group], layout.wholeLast());
                    if (target == NONE) {
                        return false;
                    }
                    next[state * CHARACTERS + group] = target;
                }
            }
            return true;
        }

        private void groupCharacters(long[] holders) {
            groupCount = 0;
            for (int c = 0; c < CHARACTERS; c++) {
                int group = 0;
                while (group < groupCount && groupHolders[group] != holders[c]) {
                    group++;
                }
                if (group == groupCount) {
                    groupHolders[group] = holders[c];
                    groupSize[group] = 0;
                    groupCount++;
                }
                groupOf[c] = group;
                groupSize[group]++;
            }
        }

        /** The state of a set of positions, a new one if need be; NONE when there is no room for it. */
        private int findState(long positions, long last) {
            // The beginning is no set of positions, though its row says none.
            for (int state = 1; state < stateCount; state++) {
                if (positionsOf[state] == positions) {
                    return state;
                }
            }
            if (stateCount >= MAX_STATES) {
                return NONE;
            }
            positionsOf[stateCount] = positions;
            accepts[stateCount] = (positions & last) != 0;
            stateCount++;
            return stateCount - 1;
        }

        int step(int state, int c) {
            return next[state * CHARACTERS + groupOf[c - FIRST_CHARACTER]];
        }

        boolean takes(int[] text, int length) {
            int state = 0;
            for (int k = 0; k < length; k++) {
                state = step(state, text[k]);
            }
            return accepts[state];
        }

        /** States count as one kind until some text tells them apart; each round looks one character further. */
        int countKinds() {
            for (int state = 0; state < stateCount; state++) {
                kindOf[state] = accepts[state] ? 1 : 0;
            }
            int kinds = 0;
            for (int round = 0; round <= MAX_STATES; round++) {
                int finerKinds = refineKinds();
                if (finerKinds == kinds) {
                    return kinds;
                }
                kinds = finerKinds;
            }
            return kinds;
        }

        private int refineKinds() {
            int found = 0;
            for (int state = 0; state < stateCount; state++) {
                int kind = 0;
                while (kind < found && !areAlike(state, modelOf[kind])) {
                    kind++;
                }
                if (kind == found) {
                    modelOf[kind] = state;
                    found++;
                }
                finerKindOf[state] = kind;
            }
            System.arraycopy(finerKindOf, 0, kindOf, 0, stateCount);
            return found;
        }

        private boolean areAlike(int state, int other) {
            if (kindOf[state] != kindOf[other]) {
                return false;
            }
            for (int group = 0; group < groupCount; group++) {
                int target = next[state * CHARACTERS + group];
                int otherTarget = next[other * CHARACTERS + group];
                if (kindOf[target] != kindOf[otherTarget]) {
                    return false;
                }
            }
            return true;
        }

        long countWords(int n) {
            for (int state = 0; state < stateCount; state++) {
                ways[state] = state == 0 ? 1 : 0;
            }
            for (int read = 0; read < n; read++) {
                spreadWays();
            }
            long sum = 0;
            for (int state = 0; state < stateCount; state++) {
                if (accepts[state]) {
                    sum += ways[state];
                }
            }
            return sum;
        }

        private void spreadWays() {
            Arrays.fill(laterWays, 0);
            for (int state = 0; state < stateCount; state++) {
                for (int group = 0; group < groupCount; group++) {
                    laterWays[next[state * CHARACTERS + group]] += ways[state] * groupSize[group];
                }
            }
            System.arraycopy(laterWays, 0, ways, 0, stateCount);
        }
    }

    /** Two machines read the same texts side by side; a pair of states is one number, 0 being both beginnings. */
    private static final class Comparison {
        private static final int PAIRS = MAX_STATES * MAX_STATES;

        private final int[] queue = new int[PAIRS];
        private final int[] cameFrom = new int[PAIRS];
        private final int[] cameBy = new int[PAIRS];
        private final int[] letters = new int[CHARACTERS];
        private int letterCount;

        /**
         * The first pair where the one machine accepts and the other does not, or NONE. Pairs are come to in the order of
         * their least shortest words, because shorter words and lesser characters are tried first.
         */
        int findPair(Machine one, Machine other) {
            chooseLetters(one, other);
            Arrays.fill(cameFrom, NONE);
            cameFrom[0] = 0;
            queue[0] = 0;
            int queued = 1;
            for (int k = 0; k < queued && k < PAIRS; k++) {
                int pair = queue[k];
                int state = pair / MAX_STATES;
                int otherState = pair % MAX_STATES;
                if (one.accepts[state] && !other.accepts[otherState]) {
                    return pair;
                }
                for (int l = 0; l < letterCount; l++) {
                    int target = one.step(state, letters[l]) * MAX_STATES + other.step(otherState, letters[l]);
                    if (cameFrom[target] == NONE && queued < PAIRS) {
                        cameFrom[target] = pair;
                        cameBy[target] = letters[l];
                        queue[queued] = target;
                        queued++;
                    }
                }
            }
            return NONE;
        }

        /** Of characters that are in one group in both machines the least one is enough. */
        private void chooseLetters(Machine one, Machine other) {
            letterCount = 0;
            for (int c = 0; c < CHARACTERS; c++) {
                int k = 0;
                while (k < letterCount && !areGrouped(one, other, c, letters[k] - FIRST_CHARACTER)) {
                    k++;
                }
                if (k == letterCount) {
                    letters[k] = c + FIRST_CHARACTER;
                    letterCount++;
                }
            }
        }

        private static boolean areGrouped(Machine one, Machine other, int c, int d) {
            return one.groupOf[c] == one.groupOf[d] && other.groupOf[c] == other.groupOf[d];
        }

        int wordSize(int pair) {
            int size = 0;
            for (int back = pair; back != 0 && size < PAIRS; back = cameFrom[back]) {
                size++;
            }
            return size;
        }

        void spell(int pair, int[] text, int size) {
            int back = pair;
            for (int k = size - 1; k >= 0; k--) {
                text[k] = cameBy[back];
                back = cameFrom[back];
            }
        }
    }
}
