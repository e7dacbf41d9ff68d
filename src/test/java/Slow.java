import java.math.BigInteger;
import java.util.ArrayList;
import java.util.BitSet;
import java.util.HashMap;
import java.util.List;
import java.util.Map;
import java.util.TreeMap;

/**
 * The document read a second time, in the plainest way and with other means than the program's: recursive readers that
 * throw, expressions as trees, positions as leaves of a net with silent steps, kinds by marking pairs.
 */
final class Slow {
    static final class Fault extends RuntimeException {
        private static final long serialVersionUID = 1L;
        final int place;

        Fault(int place) {
            super(null, null, false, false);
            this.place = place;
        }
    }

    static final class TooBig extends RuntimeException {
        private static final long serialVersionUID = 1L;

        TooBig() {
            super(null, null, false, false);
        }
    }

    /** A set when parts is null, else a join or a choice; least and most are the times, most -1 for and more. */
    record Tree(BitSet set, boolean choice, List<Tree> parts, int least, int most) {
        static Tree of(BitSet set) {
            return new Tree(set, false, null, 1, 1);
        }

        static Tree join(List<Tree> parts) {
            return new Tree(null, false, parts, 1, 1);
        }

        static Tree choice(List<Tree> parts) {
            return new Tree(null, true, parts, 1, 1);
        }

        Tree times(int from, int to) {
            return new Tree(set, choice, parts, from, to);
        }

        long size() {
            long once = 0;
            if (parts == null) {
                once = 1;
            } else {
                for (Tree part : parts) {
                    once += part.size();
                }
            }
            return once * (most < 0 ? least + 1 : most);
        }
    }

    private final String t;
    private int i;

    private Slow(String text) {
        t = text;
    }

    // ---- sets

    static BitSet any() {
        BitSet all = new BitSet();
        all.set(32, 127);
        return all;
    }

    static BitSet one(char c) {
        BitSet set = new BitSet();
        set.set(c);
        return set;
    }

    static BitSet others(BitSet set) {
        BitSet rest = any();
        rest.andNot(set);
        return rest;
    }

    // ---- grammars

    static Tree read(String text, int dialect) {
        Slow slow = new Slow(text);
        return switch (dialect) {
            case 0 -> slow.glob(false, 0);
            case 1 -> slow.glob(true, 0);
            case 2 -> slow.like();
            default -> slow.regex();
        };
    }

    private boolean more() {
        return i < t.length();
    }

    private boolean sees(String s) {
        return t.startsWith(s, i);
    }

    private Tree glob(boolean path, int depth) {
        List<Tree> join = new ArrayList<>();
        BitSet single = path ? others(one('/')) : any();
        while (more()) {
            char c = t.charAt(i);
            if (path && depth > 0 && (c == ',' || c == '}')) {
                break;
            }
            int at = i++;
            if (c == '?') {
                join.add(Tree.of(single));
            } else if (c == '*' && path && sees("*")) {
                i++;
                join.add(Tree.of(any()).times(0, -1));
            } else if (c == '*') {
                join.add(Tree.of(single).times(0, -1));
            } else if (c == '[') {
                BitSet set = bracket(at);
                set.and(single);
                join.add(Tree.of(set));
            } else if (c == '\\') {
                if (!more()) {
                    throw new Fault(at);
                }
                join.add(Tree.of(one(t.charAt(i++))));
            } else if (c == '{' && path) {
                join.add(list(at, depth + 1));
            } else {
                join.add(Tree.of(one(c)));
            }
        }
        return Tree.join(join);
    }

    private Tree list(int at, int depth) {
        if (depth > 3) {
            throw new Fault(at);
        }
        List<Tree> choice = new ArrayList<>();
        while (true) {
            choice.add(glob(true, depth));
            if (!more()) {
                throw new Fault(at);
            }
            if (t.charAt(i++) == '}') {
                return Tree.choice(choice);
            }
        }
    }

    private BitSet bracket(int at) {
        boolean turned = sees("!");
        if (turned) {
            i++;
        }
        BitSet set = new BitSet();
        boolean isFirst = true;
        while (isFirst || !sees("]")) {
            isFirst = false;
            char from = bracketCharacter(at);
            if (sees("-") && !sees("-]")) {
                i++;
                int place = i;
                char to = bracketCharacter(at);
                if (to < from) {
                    throw new Fault(place);
                }
                set.set(from, to + 1);
            } else {
                set.set(from);
            }
        }
        i++;
        return turned ? others(set) : set;
    }

    private char bracketCharacter(int at) {
        if (sees("\\")) {
            i++;
        }
        if (!more()) {
            throw new Fault(at);
        }
        return t.charAt(i++);
    }

    private Tree like() {
        List<Tree> join = new ArrayList<>();
        while (more()) {
            int at = i;
            char c = t.charAt(i++);
            if (c == '_') {
                join.add(Tree.of(any()));
            } else if (c == '%') {
                join.add(Tree.of(any()).times(0, -1));
            } else if (c == '\\') {
                if (!sees("_") && !sees("%") && !sees("\\")) {
                    throw new Fault(at);
                }
                join.add(Tree.of(one(t.charAt(i++))));
            } else {
                join.add(Tree.of(one(c)));
            }
        }
        return Tree.join(join);
    }

    private Tree regex() {
        Tree whole = branches(0);
        if (more()) {
            throw new Fault(i);
        }
        return whole;
    }

    private Tree branches(int depth) {
        List<Tree> choice = new ArrayList<>();
        choice.add(branch(depth));
        while (sees("|")) {
            i++;
            choice.add(branch(depth));
        }
        return Tree.choice(choice);
    }

    private Tree branch(int depth) {
        List<Tree> join = new ArrayList<>();
        while (more() && !sees("|") && !sees(")")) {
            join.add(quantified(atom(depth)));
        }
        return Tree.join(join);
    }

    private Tree quantified(Tree atom) {
        if (sees("?")) {
            i++;
            return atom.times(0, 1);
        }
        if (sees("*")) {
            i++;
            return atom.times(0, -1);
        }
        if (sees("+")) {
            i++;
            return atom.times(1, -1);
        }
        if (!sees("{")) {
            return atom;
        }
        String rest = t.substring(i);
        java.util.regex.Matcher m = java.util.regex.Pattern.compile("\\{([0-9])(,([0-9])?)?\\}").matcher(rest);
        if (!m.lookingAt()) {
            throw new Fault(i);
        }
        int least = Integer.parseInt(m.group(1));
        int most = m.group(2) == null ? least : m.group(3) == null ? -1 : Integer.parseInt(m.group(3));
        if (most >= 0 && most < least) {
            throw new Fault(i);
        }
        i += m.end();
        return atom.times(least, most);
    }

    private Tree atom(int depth) {
        int at = i;
        char c = t.charAt(i);
        if ("?*+{})]|".indexOf(c) >= 0) {
            throw new Fault(at);
        }
        i++;
        if (c == '.') {
            return Tree.of(any());
        }
        if (c == '[') {
            return Tree.of(regexClass(1));
        }
        if (c == '\\') {
            i--;
            BitSet set = escapedSet();
            return Tree.of(set != null ? set : one(escapedCharacter()));
        }
        if (c != '(') {
            return Tree.of(one(c));
        }
        if (depth == 4) {
            throw new Fault(at);
        }
        Tree inner = branches(depth + 1);
        if (!more()) {
            throw new Fault(at);
        }
        i++;
        return inner;
    }

    /** The set of an escape at the place, or null when there is none. */
    private BitSet escapedSet() {
        if (!sees("\\") || i + 1 >= t.length()) {
            return null;
        }
        char c = t.charAt(i + 1);
        BitSet set = new BitSet();
        for (char d = 32; d < 127; d++) {
            boolean in = switch (Character.toLowerCase(c)) {
                case 'd' -> Character.isDigit(d);
                case 'w' -> Character.isLetterOrDigit(d) || d == '_';
                case 's' -> d == ' ';
                default -> false;
            };
            set.set(d, in);
        }
        if (set.isEmpty()) {
            return null;
        }
        i += 2;
        return Character.isUpperCase(c) ? others(set) : set;
    }

    private char escapedCharacter() {
        if (i + 1 < t.length() && "\\|.?*+(){}[]-^".indexOf(t.charAt(i + 1)) >= 0) {
            i += 2;
            return t.charAt(i - 1);
        }
        throw new Fault(i);
    }

    /** The [ has been read. */
    private BitSet regexClass(int level) {
        boolean turned = sees("^");
        if (turned) {
            i++;
        }
        BitSet set = new BitSet();
        int items = 0;
        while (true) {
            if (items > 0 && sees("]")) {
                i++;
                return turned ? others(set) : set;
            }
            if (items > 0 && sees("-[")) {
                break;
            }
            BitSet escaped = escapedSet();
            items++;
            if (escaped != null) {
                set.or(escaped);
                continue;
            }
            char from = classCharacter();
            if (!sees("-") || sees("-[")) {
                set.set(from);
                continue;
            }
            i++;
            int place = i;
            char to = classCharacter();
            if (to < from) {
                throw new Fault(place);
            }
            set.set(from, to + 1);
        }
        if (level == 3) {
            throw new Fault(i);
        }
        i += 2;
        BitSet without = regexClass(level + 1);
        if (!sees("]")) {
            throw new Fault(i);
        }
        i++;
        BitSet result = turned ? others(set) : set;
        result.andNot(without);
        return result;
    }

    private char classCharacter() {
        if (!more() || sees("[") || sees("]") || sees("-")) {
            throw new Fault(i);
        }
        return sees("\\") ? escapedCharacter() : t.charAt(i++);
    }

    // ---- the net: nodes with silent steps, and positions that lead from one node to another

    static final class Net {
        final List<BitSet> silent = new ArrayList<>();
        final List<BitSet> sets = new ArrayList<>();
        final List<Integer> from = new ArrayList<>();
        final List<Integer> to = new ArrayList<>();
        final int start;
        final int end;

        Net(Tree tree) {
            if (tree.size() > 40) {
                throw new TooBig();
            }
            start = node();
            end = lay(tree, start);
        }

        private int node() {
            silent.add(new BitSet());
            return silent.size() - 1;
        }

        private int lay(Tree tree, int at) {
            if (tree.size() == 0) {
                return at;
            }
            int here = at;
            for (int k = 0; k < tree.least(); k++) {
                here = layOnce(tree, here);
            }
            if (tree.most() < 0) {
                int in = node();
                silent.get(here).set(in);
                int out = layOnce(tree, in);
                silent.get(out).set(in);
                int behind = node();
                silent.get(in).set(behind);
                silent.get(out).set(behind);
                return behind;
            }
            for (int k = tree.least(); k < tree.most(); k++) {
                int in = node();
                silent.get(here).set(in);
                int out = layOnce(tree, in);
                int behind = node();
                silent.get(out).set(behind);
                silent.get(here).set(behind);
                here = behind;
            }
            return here;
        }

        private int layOnce(Tree tree, int at) {
            if (tree.parts() == null) {
                sets.add(tree.set());
                from.add(at);
                int behind = node();
                to.add(behind);
                return behind;
            }
            if (tree.choice()) {
                int behind = node();
                for (Tree part : tree.parts()) {
                    int in = node();
                    silent.get(at).set(in);
                    silent.get(lay(part, in)).set(behind);
                }
                return behind;
            }
            int here = at;
            for (Tree part : tree.parts()) {
                int in = node();
                silent.get(here).set(in);
                here = lay(part, in);
            }
            return here;
        }

        BitSet closure(int at) {
            BitSet seen = new BitSet();
            seen.set(at);
            boolean grown = true;
            while (grown) {
                int before = seen.cardinality();
                for (int k = seen.nextSetBit(0); k >= 0; k = seen.nextSetBit(k + 1)) {
                    seen.or(silent.get(k));
                }
                grown = seen.cardinality() > before;
            }
            return seen;
        }

        BitSet positionsBehind(BitSet nodes) {
            BitSet found = new BitSet();
            for (int p = 0; p < sets.size(); p++) {
                found.set(p, nodes.get(from.get(p)));
            }
            return found;
        }
    }

    // ---- the machine

    static final class Machine {
        final int positions;
        final List<int[]> next = new ArrayList<>();
        final List<Boolean> accepts = new ArrayList<>();

        Machine(Tree tree) {
            Net net = new Net(tree);
            positions = net.sets.size();
            BitSet[] follow = new BitSet[positions];
            BitSet last = new BitSet();
            for (int p = 0; p < positions; p++) {
                BitSet nodes = net.closure(net.to.get(p));
                follow[p] = net.positionsBehind(nodes);
                last.set(p, nodes.get(net.end));
            }
            BitSet atStart = net.closure(net.start);
            BitSet first = net.positionsBehind(atStart);
            Map<BitSet, Integer> numbers = new HashMap<>();
            List<BitSet> states = new ArrayList<>();
            states.add(null);
            accepts.add(atStart.get(net.end));
            for (int s = 0; s < states.size(); s++) {
                BitSet reached = new BitSet();
                if (s == 0) {
                    reached = first;
                } else {
                    for (int p = 0; p < positions; p++) {
                        if (states.get(s).get(p)) {
                            reached.or(follow[p]);
                        }
                    }
                }
                int[] row = new int[127];
                for (int c = 32; c < 127; c++) {
                    BitSet target = new BitSet();
                    for (int p = reached.nextSetBit(0); p >= 0; p = reached.nextSetBit(p + 1)) {
                        target.set(p, net.sets.get(p).get(c));
                    }
                    Integer number = numbers.get(target);
                    if (number == null) {
                        number = states.size();
                        if (number == 60) {
                            throw new TooBig();
                        }
                        numbers.put(target, number);
                        states.add(target);
                        accepts.add(target.intersects(last));
                    }
                    row[c] = number;
                }
                next.add(row);
            }
        }

        int states() {
            return next.size();
        }

        boolean takes(String word) {
            int s = 0;
            for (int k = 0; k < word.length(); k++) {
                s = next.get(s)[word.charAt(k)];
            }
            return accepts.get(s);
        }

        int kinds() {
            int n = states();
            boolean[][] apart = new boolean[n][n];
            for (int a = 0; a < n; a++) {
                for (int b = 0; b < n; b++) {
                    apart[a][b] = accepts.get(a) != accepts.get(b);
                }
            }
            boolean grown = true;
            while (grown) {
                grown = false;
                for (int a = 0; a < n; a++) {
                    for (int b = 0; b < n; b++) {
                        for (int c = 32; c < 127 && !apart[a][b]; c++) {
                            if (apart[next.get(a)[c]][next.get(b)[c]]) {
                                apart[a][b] = true;
                                grown = true;
                            }
                        }
                    }
                }
            }
            int kinds = 0;
            for (int a = 0; a < n; a++) {
                boolean isNew = true;
                for (int b = 0; b < a; b++) {
                    isNew = isNew && apart[a][b];
                }
                kinds += isNew ? 1 : 0;
            }
            return kinds;
        }

        long words(int n) {
            BigInteger[] ways = new BigInteger[states()];
            java.util.Arrays.fill(ways, BigInteger.ZERO);
            ways[0] = BigInteger.ONE;
            for (int k = 0; k < n; k++) {
                BigInteger[] later = new BigInteger[states()];
                java.util.Arrays.fill(later, BigInteger.ZERO);
                for (int s = 0; s < states(); s++) {
                    if (ways[s].signum() == 0) {
                        continue;
                    }
                    for (int c = 32; c < 127; c++) {
                        int to = next.get(s)[c];
                        later[to] = later[to].add(ways[s]);
                    }
                }
                ways = later;
            }
            BigInteger sum = BigInteger.ZERO;
            for (int s = 0; s < states(); s++) {
                if (accepts.get(s)) {
                    sum = sum.add(ways[s]);
                }
            }
            return sum.longValue();
        }

        /** The least of the shortest words of this one that are no words of the other, or null. */
        String witness(Machine other) {
            Map<List<Integer>, String> seen = new HashMap<>();
            Map<List<Integer>, String> level = new HashMap<>();
            level.put(List.of(0, 0), "");
            while (!level.isEmpty()) {
                String least = null;
                for (Map.Entry<List<Integer>, String> e : level.entrySet()) {
                    boolean found = accepts.get(e.getKey().get(0)) && !other.accepts.get(e.getKey().get(1));
                    if (found && (least == null || e.getValue().compareTo(least) < 0)) {
                        least = e.getValue();
                    }
                }
                if (least != null) {
                    return least;
                }
                seen.putAll(level);
                Map<String, List<Integer>> byWord = new TreeMap<>();
                level.forEach((pair, word) -> byWord.put(word, pair));
                Map<List<Integer>, String> nextLevel = new HashMap<>();
                byWord.forEach((word, pair) -> {
                    for (int c = 32; c < 127; c++) {
                        List<Integer> to = List.of(next.get(pair.get(0))[c], other.next.get(pair.get(1))[c]);
                        String longer = word + (char) c;
                        if (!seen.containsKey(to)
                                && (!nextLevel.containsKey(to) || longer.compareTo(nextLevel.get(to)) < 0)) {
                            nextLevel.put(to, longer);
                        }
                    }
                });
                level = nextLevel;
            }
            return null;
        }
    }

    /** Whether a tree takes a word, without any machine. */
    static boolean takes(Tree tree, String word) {
        return ends(tree, word, one0()).get(word.length());
    }

    private static BitSet one0() {
        BitSet set = new BitSet();
        set.set(0);
        return set;
    }

    private static BitSet ends(Tree tree, String word, BitSet starts) {
        BitSet here = starts;
        for (int k = 0; k < tree.least(); k++) {
            here = endsOnce(tree, word, here);
        }
        BitSet all = (BitSet) here.clone();
        int rounds = tree.most() < 0 ? word.length() + 1 : tree.most() - tree.least();
        for (int k = 0; k < rounds; k++) {
            here = endsOnce(tree, word, here);
            all.or(here);
        }
        return all;
    }

    private static BitSet endsOnce(Tree tree, String word, BitSet starts) {
        BitSet found = new BitSet();
        if (tree.parts() == null) {
            for (int k = starts.nextSetBit(0); k >= 0; k = starts.nextSetBit(k + 1)) {
                if (k < word.length() && tree.set().get(word.charAt(k))) {
                    found.set(k + 1);
                }
            }
            return found;
        }
        if (tree.choice()) {
            for (Tree part : tree.parts()) {
                found.or(ends(part, word, starts));
            }
            return found;
        }
        BitSet here = starts;
        for (Tree part : tree.parts()) {
            here = ends(part, word, here);
        }
        return here;
    }
}
