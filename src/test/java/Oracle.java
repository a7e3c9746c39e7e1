import java.util.ArrayList;
import java.util.Comparator;
import java.util.HashMap;
import java.util.List;
import java.util.Map;
import java.util.TreeMap;

/**
 * The answers by other and slower ways: questions about strings and rows by running all trees of a
 * symbol through a finite automaton, counts by height or by size from the top, all short strings by
 * joining what the symbols of each rule derive until nothing new comes.
 */
final class Oracle {
    private static final long MANY = 1000000000000000L;
    private static final int NONE = 1 << 28;
    /** Behind this, a number stands for a nonterminal left as it is, so that rows become strings. */
    private static final int KEPT = 100;
    private static final int MARK = 200;
    private static final int TERMINALS = 201;
    /** The less string first. */
    private static final Comparator<String> ORDER =
        Comparator.comparingInt(String::length).thenComparing(Comparator.naturalOrder());

    /** A rule is its left side and then its right side. */
    private final List<int[]> rules;
    /** How many trees, but not above two, the start has with each string of up to six letters. */
    private TreeMap<String, Integer> listed;

    Oracle(List<int[]> rules) {
        this.rules = rules;
    }

    /** An automaton whose states are numbers from 0 on; it begins at 0. */
    private static final class Automaton {
        final int states;
        final boolean[][][] step;

        Automaton(int states) {
            this.states = states;
            step = new boolean[TERMINALS][states][states];
        }

        Automaton on(int terminal, int p, int q) {
            step[terminal][p][q] = true;
            return this;
        }

        Automaton onAny(int p, int q) {
            for (int terminal = 0; terminal < TERMINALS; terminal++) {
                step[terminal][p][q] = true;
            }
            return this;
        }
    }

    private static boolean isTerminal(int symbol) {
        return symbol < 4 || symbol > 11;
    }

    /** From which state to which some string of each nonterminal leads. */
    private static boolean[][][] run(List<int[]> grammar, Automaton automaton) {
        boolean[][][] leads = new boolean[12][automaton.states][automaton.states];
        boolean changed = true;
        while (changed) {
            changed = false;
            for (int[] rule : grammar) {
                boolean[][] of = ofRow(rule, automaton, leads);
                for (int p = 0; p < automaton.states; p++) {
                    for (int q = 0; q < automaton.states; q++) {
                        if (of[p][q] && !leads[rule[0]][p][q]) {
                            leads[rule[0]][p][q] = true;
                            changed = true;
                        }
                    }
                }
            }
        }
        return leads;
    }

    private static boolean[][] ofRow(int[] rule, Automaton automaton, boolean[][][] leads) {
        int n = automaton.states;
        boolean[][] row = new boolean[n][n];
        for (int p = 0; p < n; p++) {
            row[p][p] = true;
        }
        for (int k = 1; k < rule.length; k++) {
            boolean[][] next = new boolean[n][n];
            boolean[][] one = isTerminal(rule[k]) ? automaton.step[rule[k]] : leads[rule[k]];
            for (int p = 0; p < n; p++) {
                for (int m = 0; m < n; m++) {
                    for (int q = 0; row[p][m] && q < n; q++) {
                        next[p][q] |= one[m][q];
                    }
                }
            }
            row = next;
        }
        return row;
    }

    private List<int[]> rulesOfRows() {
        List<int[]> more = new ArrayList<>(rules);
        for (int a = 4; a <= 11; a++) {
            more.add(new int[] {a, KEPT + a});
        }
        return more;
    }

    private static int set(boolean[] bits) {
        int number = 0;
        for (int b = 0; b < bits.length; b++) {
            number |= bits[b] ? 1 << b : 0;
        }
        return number;
    }

    boolean derives(int symbol, int[] word) {
        Automaton automaton = new Automaton(word.length + 1);
        for (int p = 0; p < word.length; p++) {
            automaton.on(word[p], p, p + 1);
        }
        return run(rules, automaton)[symbol][0][word.length];
    }

    boolean begins(int symbol, int[] word) {
        Automaton automaton = new Automaton(word.length + 1).onAny(word.length, word.length);
        for (int p = 0; p < word.length; p++) {
            automaton.on(word[p], p, p + 1);
        }
        return run(rules, automaton)[symbol][0][word.length];
    }

    int first(int symbol) {
        boolean[] bits = {derives(symbol, new int[0]), begins(symbol, new int[] {1}), begins(symbol, new int[] {2}),
            begins(symbol, new int[] {3})};
        return set(bits);
    }

    int follow(int symbol) {
        Automaton end = new Automaton(2).onAny(0, 0).on(KEPT + symbol, 0, 1);
        boolean[] bits = new boolean[4];
        bits[0] = run(rulesOfRows(), end)[4][0][1];
        for (int letter = 1; letter <= 3; letter++) {
            Automaton pair = new Automaton(3).onAny(0, 0).on(KEPT + symbol, 0, 1).on(letter, 1, 2).onAny(2, 2);
            bits[letter] = run(rulesOfRows(), pair)[4][0][2];
        }
        return set(bits);
    }

    int look(int what) {
        if (what == 0) {
            return rules.size();
        }
        if (what == 5) {
            return rulesOfUse();
        }
        boolean[] bits = new boolean[12];
        for (int a = 4; a <= 11; a++) {
            Automaton has = new Automaton(2).onAny(0, 0).on(KEPT + a, 0, 1).onAny(1, 1);
            if (what == 1) {
                bits[a] = begins(a, new int[0]);
            } else if (what == 2) {
                bits[a] = derives(a, new int[0]);
            } else if (what == 3) {
                bits[a] = run(rulesOfRows(), has)[4][0][1];
            } else {
                bits[a] = comesOfItself(a, has);
            }
        }
        return set(bits);
    }

    private boolean comesOfItself(int a, Automaton has) {
        boolean[][][] leads = run(rulesOfRows(), has);
        for (int[] rule : rules) {
            if (rule[0] == a && ofRow(rule, has, leads)[0][1]) {
                return true;
            }
        }
        return false;
    }

    private int rulesOfUse() {
        Automaton has = new Automaton(2).onAny(0, 0).on(MARK, 0, 1).onAny(1, 1);
        int total = 0;
        for (int r = 0; r < rules.size(); r++) {
            int[] rule = rules.get(r);
            int[] marked = new int[rule.length + 1];
            System.arraycopy(rule, 0, marked, 0, rule.length);
            marked[rule.length] = MARK;
            List<int[]> changed = new ArrayList<>(rules);
            changed.set(r, marked);
            total += run(changed, has)[4][0][1] ? 1 : 0;
        }
        return total;
    }

    /** How many, as a sum and as a product, but not above what is many. */
    private static long sum(long a, long b) {
        return Math.min(MANY, a + b);
    }

    private static long product(long a, long b) {
        return Math.multiplyHigh(a, b) != 0 || a * b < 0 ? MANY : Math.min(MANY, a * b);
    }

    /**
     * Trees by height. One that is higher than there are pairs of a nonterminal and a part on a way
     * down has a pair twice on such a way; then there is no end of trees, and some are in the next
     * so many heights.
     */
    long trees(int symbol, int[] word) {
        int n = word.length;
        int high = 8 * (n + 1);
        long[][][] upTo = new long[12][n + 1][n + 1];
        boolean[][][] exact = new boolean[12][n + 1][n + 1];
        for (int i = 0; i < n; i++) {
            upTo[word[i]][i][i + 1] = 1;
            exact[word[i]][i][i + 1] = true;
        }
        for (int height = 1; height <= 2 * high; height++) {
            long[][][] next = new long[12][n + 1][n + 1];
            boolean[][][] nextExact = new boolean[12][n + 1][n + 1];
            System.arraycopy(upTo, 0, next, 0, 4);
            boolean some = false;
            for (int[] rule : rules) {
                for (int i = 0; i <= n; i++) {
                    for (int j = i; j <= n; j++) {
                        next[rule[0]][i][j] = sum(next[rule[0]][i][j], ways(rule, 1, i, j, upTo));
                        boolean is = rule.length == 1 ? height == 1 && i == j : highest(rule, 1, i, j, upTo, exact);
                        nextExact[rule[0]][i][j] |= is;
                        some |= is;
                    }
                }
            }
            upTo = next;
            exact = nextExact;
            if (height > high && exact[symbol][0][n]) {
                return -1;
            }
            if (!some) {
                break;
            }
        }
        return upTo[symbol][0][n];
    }

    private static long ways(int[] rule, int q, int i, int j, long[][][] upTo) {
        if (q == rule.length) {
            return i == j ? 1 : 0;
        }
        long total = 0;
        for (int m = i; m <= j; m++) {
            if (upTo[rule[q]][i][m] != 0) {
                total = sum(total, product(upTo[rule[q]][i][m], ways(rule, q + 1, m, j, upTo)));
            }
        }
        return total;
    }

    /** Whether some way has a part of just the height before. */
    private static boolean highest(int[] rule, int q, int i, int j, long[][][] upTo, boolean[][][] exact) {
        if (q == rule.length) {
            return false;
        }
        for (int m = i; m <= j; m++) {
            if (exact[rule[q]][i][m] && ways(rule, q + 1, m, j, upTo) != 0) {
                return true;
            }
            if (upTo[rule[q]][i][m] != 0 && highest(rule, q + 1, m, j, upTo, exact)) {
                return true;
            }
        }
        return false;
    }

    long sized(int[] word, int size) {
        return sizedOf(4, word, 0, word.length, size, new HashMap<>());
    }

    private long sizedOf(int symbol, int[] word, int i, int j, int size, Map<Long, Long> known) {
        if (symbol < 4) {
            return size == 0 && j == i + 1 && word[i] == symbol ? 1 : 0;
        }
        if (size == 0) {
            return 0;
        }
        long key = (((long) symbol * 16 + i) * 16 + j) * 64 + size;
        Long before = known.get(key);
        if (before != null) {
            return before;
        }
        long total = 0;
        for (int r = 0; r < rules.size(); r++) {
            if (rules.get(r)[0] == symbol) {
                total = sum(total, sizedRow(r, 1, word, i, j, size - 1, known));
            }
        }
        known.put(key, total);
        return total;
    }

    private long sizedRow(int r, int q, int[] word, int i, int j, int size, Map<Long, Long> known) {
        int[] rule = rules.get(r);
        if (q == rule.length) {
            return i == j && size == 0 ? 1 : 0;
        }
        long key = ((((r + 20L) * 8 + q) * 16 + i) * 16 + j) * 64 + size;
        key = -key;
        Long before = known.get(key);
        if (before != null) {
            return before;
        }
        long total = 0;
        for (int m = i; m <= j; m++) {
            for (int s = 0; s <= size; s++) {
                long rest = sizedRow(r, q + 1, word, m, j, size - s, known);
                if (rest != 0) {
                    total = sum(total, product(rest, sizedOf(rule[q], word, i, m, s, known)));
                }
            }
        }
        known.put(key, total);
        return total;
    }

    int least(int[] word) {
        int n = word.length;
        int[][][] least = new int[12][n + 1][n + 1];
        for (int[][] table : least) {
            for (int[] row : table) {
                java.util.Arrays.fill(row, NONE);
            }
        }
        for (int i = 0; i < n; i++) {
            least[word[i]][i][i + 1] = 0;
        }
        boolean changed = true;
        while (changed) {
            changed = false;
            for (int[] rule : rules) {
                for (int i = 0; i <= n; i++) {
                    for (int j = i; j <= n; j++) {
                        int size = Math.min(NONE, 1 + leastRow(rule, 1, i, j, least));
                        if (size < least[rule[0]][i][j]) {
                            least[rule[0]][i][j] = size;
                            changed = true;
                        }
                    }
                }
            }
        }
        return least[4][0][n] == NONE ? 0 : least[4][0][n];
    }

    private static int leastRow(int[] rule, int q, int i, int j, int[][][] least) {
        if (q == rule.length) {
            return i == j ? 0 : NONE;
        }
        int best = NONE;
        for (int m = i; m <= j; m++) {
            if (least[rule[q]][i][m] < NONE) {
                best = Math.min(best, least[rule[q]][i][m] + leastRow(rule, q + 1, m, j, least));
            }
        }
        return best;
    }

    int strings(int length) {
        int total = 0;
        for (String word : listed().keySet()) {
            total += word.length() == length ? 1 : 0;
        }
        return total;
    }

    /** One of the strings of up to six letters that are derived, or the empty one. */
    String someString(int number) {
        List<String> all = new ArrayList<>(listed().keySet());
        return all.isEmpty() ? "" : all.get(number % all.size());
    }

    int stringsInAll() {
        return listed().size();
    }

    /** The least one as a number, or -1. */
    int ambiguous(int length) {
        for (Map.Entry<String, Integer> one : listed().entrySet()) {
            if (one.getValue() > 1) {
                return one.getKey().length() <= length ? Cases.string(one.getKey()) : -1;
            }
        }
        return -1;
    }

    /** The least one as a number, or -1. */
    int from(String lowest) {
        String least = listed().ceilingKey(lowest);
        return least == null ? -1 : Cases.string(least);
    }

    private TreeMap<String, Integer> listed() {
        if (listed == null) {
            listed = listAll().get(4);
        }
        return listed;
    }

    /** Of each symbol the strings of up to six letters, by trees that grow by a rule at their top each time. */
    private List<TreeMap<String, Integer>> listAll() {
        List<TreeMap<String, Integer>> known = new ArrayList<>();
        for (int x = 0; x < 12; x++) {
            known.add(new TreeMap<>(ORDER));
            if (x >= 1 && x <= 3) {
                known.get(x).put(Integer.toString(x), 1);
            }
        }
        boolean changed = true;
        while (changed) {
            List<TreeMap<String, Integer>> next = new ArrayList<>(known.subList(0, 4));
            for (int a = 4; a < 12; a++) {
                next.add(new TreeMap<>(ORDER));
            }
            for (int[] rule : rules) {
                joined(rule, known).forEach((word, ways) -> next.get(rule[0]).merge(word, ways, Oracle::upToTwo));
            }
            changed = !next.equals(known);
            known = next;
        }
        return known;
    }

    private static Map<String, Integer> joined(int[] rule, List<TreeMap<String, Integer>> known) {
        Map<String, Integer> row = Map.of("", 1);
        for (int q = 1; q < rule.length; q++) {
            Map<String, Integer> longer = new HashMap<>();
            for (Map.Entry<String, Integer> head : row.entrySet()) {
                for (Map.Entry<String, Integer> tail : known.get(rule[q]).entrySet()) {
                    if (head.getKey().length() + tail.getKey().length() > 6) {
                        break;
                    }
                    int ways = Math.min(2, head.getValue() * tail.getValue());
                    longer.merge(head.getKey() + tail.getKey(), ways, Oracle::upToTwo);
                }
            }
            row = longer;
        }
        return row;
    }

    private static int upToTwo(int a, int b) {
        return Math.min(2, a + b);
    }
}
