import java.util.Arrays;
import java.util.NoSuchElementException;

/**
 * A counter of derivation trees of a grammar without context. Symbols 1 .. 3 are letters,
 * 4 .. 11 nonterminals; sets of symbols are masks with bit x for symbol x.
 */
public final class TreeCount {
    private static final int START = 4;
    private static final int LAST_SYMBOL = 11;
    private static final int SYMBOLS = LAST_SYMBOL + 1;
    private static final int NONTERMINAL_COUNT = 8;
    private static final int LETTERS = 0xE;
    private static final int NONTERMINALS = 0xFF0;
    private static final int MOST_RULES = 24;
    private static final int LONGEST_RIGHT = 4;
    private static final int LONGEST_STRING = 8;
    private static final int LONGEST_LISTED = 6;
    private static final int LARGEST_SIZE = 30;
    private static final int LARGEST_CODE = 0xFFFF;
    private static final int PLACES = LONGEST_STRING + 1;
    private static final long MANY = 1000000000000000L;
    private static final long ENDLESS = -1L;

    private final Grammar grammar = new Grammar();
    private final Word word = new Word();
    private final Marks marks = new Marks();
    private final Spans spans = new Spans();
    private final TreeChart treeChart = new TreeChart();
    private final SizeChart sizeChart = new SizeChart();
    private final LeastChart leastChart = new LeastChart();
    private final Listing listing = new Listing();

    public TreeCount() {
    }

    public int rule(int left, int right) throws IllegalArgumentException, IllegalStateException {
        if (!isNonterminal(left) || !isRightSide(right)) {
            throw new IllegalArgumentException();
        }
        if (grammar.count >= MOST_RULES) {
            throw new IllegalStateException();
        }
        grammar.add(left, right);
        return grammar.count;
    }

    public int drop(int i) throws NoSuchElementException {
        if (i < 0 || i >= grammar.count) {
            throw new NoSuchElementException();
        }
        grammar.remove(i);
        return grammar.count;
    }

    public long trees(int symbol, int string) throws IllegalArgumentException {
        if (symbol < 1 || symbol > LAST_SYMBOL || !isString(string)) {
            throw new IllegalArgumentException();
        }
        if (symbol < START) {
            return string == symbol ? 1 : 0;
        }
        word.read(string);
        treeChart.fill(grammar, word);
        return treeChart.whole(symbol, word);
    }

    public long sized(int string, int size) throws IllegalArgumentException {
        if (!isString(string) || size < 0 || size > LARGEST_SIZE) {
            throw new IllegalArgumentException();
        }
        word.read(string);
        return sizeChart.countOf(grammar, word, size);
    }

    public int least(int string) throws IllegalArgumentException {
        if (!isString(string)) {
            throw new IllegalArgumentException();
        }
        word.read(string);
        leastChart.fill(grammar, word);
        long size = leastChart.whole(START, word);
        return size == LeastChart.NO_TREE ? 0 : (int) size;
    }

    public int strings(int length) throws IllegalArgumentException {
        if (!isListedLength(length)) {
            throw new IllegalArgumentException();
        }
        listing.fillUpTo(grammar, length);
        return listing.derivedOfLength(length);
    }

    public int ambiguous(int length) throws IllegalArgumentException {
        if (!isListedLength(length)) {
            throw new IllegalArgumentException();
        }
        for (int n = 0; n <= length; n++) {
            listing.fillUpTo(grammar, n);
            int found = listing.leastWithSeveral(n);
            if (found >= 0) {
                return found;
            }
        }
        return -1;
    }

    public int from(int string) throws IllegalArgumentException {
        if (!isString(string)) {
            throw new IllegalArgumentException();
        }
        word.read(string);
        for (int n = word.length; n <= LONGEST_LISTED; n++) {
            listing.fillUpTo(grammar, n);
            int found = listing.leastDerived(n, n == word.length ? word.rank() : 0);
            if (found >= 0) {
                return found;
            }
        }
        return -1;
    }

    public boolean begins(int string) throws IllegalArgumentException {
        if (!isString(string)) {
            throw new IllegalArgumentException();
        }
        word.read(string);
        spans.fill(grammar, word, true);
        return spans.has(START, 0, word.length);
    }

    public int first(int symbol) throws IllegalArgumentException {
        if (!isNonterminal(symbol)) {
            throw new IllegalArgumentException();
        }
        marks.learn(grammar);
        return marks.stringHeads[symbol];
    }

    public int follow(int symbol) throws IllegalArgumentException {
        if (!isNonterminal(symbol)) {
            throw new IllegalArgumentException();
        }
        marks.learn(grammar);
        return marks.behind[symbol];
    }

    public int look(int what) throws IllegalArgumentException {
        if (what < 0 || what > 6) {
            throw new IllegalArgumentException();
        }
        switch (what) {
            case 0:
                return grammar.count;
            case 6:
                return derivedInAll();
            default:
                marks.learn(grammar);
                return marks.numbered(what);
        }
    }

    private int derivedInAll() {
        listing.fillUpTo(grammar, LONGEST_LISTED);
        int total = 0;
        for (int n = 0; n <= LONGEST_LISTED; n++) {
            total += listing.derivedOfLength(n);
        }
        return total;
    }

    private static boolean isNonterminal(int symbol) {
        return symbol >= START && symbol <= LAST_SYMBOL;
    }

    private static boolean isListedLength(int length) {
        return length >= 0 && length <= LONGEST_LISTED;
    }

    private static boolean isRightSide(int right) {
        if (right < 0 || right > LARGEST_CODE) {
            return false;
        }
        int rest = right;
        for (int q = 0; q < LONGEST_RIGHT; q++) {
            if ((rest & 15) == 0) {
                return rest == 0;
            }
            if ((rest & 15) > LAST_SYMBOL) {
                return false;
            }
            rest >>= 4;
        }
        return true;
    }

    private static boolean isString(int string) {
        if (string < 0 || string > LARGEST_CODE) {
            return false;
        }
        int rest = string;
        for (int p = 0; p < LONGEST_STRING; p++) {
            if ((rest & 3) == 0) {
                return rest == 0;
            }
            rest >>= 2;
        }
        return true;
    }

    private static long capSum(long a, long b) {
        if (a < 0 || b < 0) {
            return ENDLESS;
        }
        return a + b < MANY ? a + b : MANY;
    }

    private static long capProduct(long a, long b) {
        if (a == 0 || b == 0) {
            return 0;
        }
        if (a < 0 || b < 0) {
            return ENDLESS;
        }
        return a > MANY / b ? MANY : a * b;
    }

    /** The rules, in their order. */
    private static final class Grammar {
        int count;
        /** Another number after each change, so that what was worked out before can be told as old. */
        int version;
        final int[] left = new int[MOST_RULES];
        final int[] length = new int[MOST_RULES];
        private final int[] right = new int[MOST_RULES];

        void add(int newLeft, int newRight) {
            left[count] = newLeft;
            right[count] = newRight;
            length[count] = lengthOf(newRight);
            count++;
            version++;
        }

        void remove(int i) {
            for (int r = i; r + 1 < count; r++) {
                left[r] = left[r + 1];
                right[r] = right[r + 1];
                length[r] = length[r + 1];
            }
            count--;
            version++;
        }

        int symbol(int r, int q) {
            return (right[r] >> (4 * q)) & 15;
        }

        int symbolsOf(int r) {
            int set = 0;
            for (int q = 0; q < length[r]; q++) {
                set |= 1 << symbol(r, q);
            }
            return set;
        }

        private static int lengthOf(int right) {
            int n = 0;
            while (n < LONGEST_RIGHT && (right >> (4 * n)) != 0) {
                n++;
            }
            return n;
        }
    }

    /** One string, letter by letter. */
    private static final class Word {
        int length;
        final int[] letters = new int[LONGEST_STRING];

        void read(int string) {
            length = 0;
            while (length < LONGEST_STRING && (string >> (2 * length)) != 0) {
                letters[length] = (string >> (2 * length)) & 3;
                length++;
            }
        }

        /** How many strings of the same length are less. */
        int rank() {
            int lower = 0;
            for (int p = 0; p < length; p++) {
                lower = 3 * lower + letters[p] - 1;
            }
            return lower;
        }
    }

    /** What holds of the nonterminals of a grammar, whatever the string. */
    private static final class Marks {
        /** A nonterminal has a set of three letters and bit 0; each round adds a bit, or is the last. */
        private static final int ROUNDS = 4 * NONTERMINAL_COUNT + 1;

        int productive;
        int vanishing;
        int reached;
        int recurring;
        int rulesOfUse;
        /** Letters right behind a nonterminal in rows, and bit 0 for the end of one. */
        final int[] behind = new int[SYMBOLS];
        /** Letters that begin derived strings, and bit 0 for the empty one. */
        final int[] stringHeads = new int[SYMBOLS];
        /** The same of rows, which may hold nonterminals that derive no string. */
        private final int[] rowHeads = new int[SYMBOLS];
        private final int[] comes = new int[SYMBOLS];
        private int version = -1;

        void learn(Grammar g) {
            if (version == g.version) {
                return;
            }
            version = g.version;
            int ending = builtFrom(g, LETTERS);
            productive = ending & NONTERMINALS;
            vanishing = builtFrom(g, 0);
            reached = reachedThrough(g, LETTERS | NONTERMINALS);
            recurring = findRecurring(g);
            rulesOfUse = countOfUse(g, ending);
            fillHeads(g, ending, stringHeads);
            fillHeads(g, LETTERS | NONTERMINALS, rowHeads);
            fillBehind(g);
        }

        /** As look numbers them, 1 to 5. */
        int numbered(int what) {
            switch (what) {
                case 1:
                    return productive;
                case 2:
                    return vanishing;
                case 3:
                    return reached;
                case 4:
                    return recurring;
                default:
                    return rulesOfUse;
            }
        }

        private static boolean within(Grammar g, int r, int allowed) {
            return (g.symbolsOf(r) & ~allowed) == 0;
        }

        private static boolean holds(int set, int symbol) {
            return ((set >> symbol) & 1) != 0;
        }

        /** The given symbols, and all left sides whose right sides are built of such; a round adds one, or none can. */
        private static int builtFrom(Grammar g, int given) {
            int set = given;
            for (int round = 0; round < NONTERMINAL_COUNT; round++) {
                for (int r = 0; r < g.count; r++) {
                    if (within(g, r, set)) {
                        set |= 1 << g.left[r];
                    }
                }
            }
            return set;
        }

        /** The nonterminals in rows that come of the start by rules of allowed symbols alone, found as above. */
        private static int reachedThrough(Grammar g, int allowed) {
            int set = 1 << START;
            for (int round = 0; round < NONTERMINAL_COUNT; round++) {
                for (int r = 0; r < g.count; r++) {
                    if (holds(set, g.left[r]) && within(g, r, allowed)) {
                        set |= g.symbolsOf(r) & NONTERMINALS;
                    }
                }
            }
            return set;
        }

        private static int countOfUse(Grammar g, int ending) {
            int inTrees = reachedThrough(g, ending);
            int total = 0;
            for (int r = 0; r < g.count; r++) {
                if (holds(inTrees, g.left[r]) && within(g, r, ending)) {
                    total++;
                }
            }
            return total;
        }

        private int findRecurring(Grammar g) {
            for (int a = START; a < SYMBOLS; a++) {
                comes[a] = 0;
            }
            for (int r = 0; r < g.count; r++) {
                comes[g.left[r]] |= g.symbolsOf(r) & NONTERMINALS;
            }
            for (int between = START; between < SYMBOLS; between++) {
                for (int a = START; a < SYMBOLS; a++) {
                    if (holds(comes[a], between)) {
                        comes[a] |= comes[between];
                    }
                }
            }
            int set = 0;
            for (int a = START; a < SYMBOLS; a++) {
                set |= comes[a] & (1 << a);
            }
            return set;
        }

        private static void fillHeads(Grammar g, int allowed, int[] heads) {
            for (int x = 1; x < SYMBOLS; x++) {
                heads[x] = x < START ? 1 << x : 0;
            }
            boolean changed = true;
            for (int round = 0; round < ROUNDS && changed; round++) {
                changed = false;
                for (int r = 0; r < g.count; r++) {
                    int wider = heads[g.left[r]] | headsOfRest(g, r, 0, heads);
                    if (wider != heads[g.left[r]] && within(g, r, allowed)) {
                        heads[g.left[r]] = wider;
                        changed = true;
                    }
                }
            }
        }

        /** What begins the part of a right side from q on; bit 0, if it can vanish. */
        private static int headsOfRest(Grammar g, int r, int q, int[] heads) {
            int bits = 0;
            for (int p = q; p < g.length[r]; p++) {
                int next = heads[g.symbol(r, p)];
                bits |= next & LETTERS;
                if ((next & 1) == 0) {
                    return bits;
                }
            }
            return bits | 1;
        }

        private void fillBehind(Grammar g) {
            for (int a = START; a < SYMBOLS; a++) {
                behind[a] = a == START ? 1 : 0;
            }
            boolean changed = true;
            for (int round = 0; round < ROUNDS && changed; round++) {
                changed = false;
                for (int r = 0; r < g.count; r++) {
                    if (holds(reached, g.left[r]) && widenBehind(g, r)) {
                        changed = true;
                    }
                }
            }
        }

        private boolean widenBehind(Grammar g, int r) {
            boolean changed = false;
            for (int q = 0; q < g.length[r]; q++) {
                int x = g.symbol(r, q);
                int heads = headsOfRest(g, r, q + 1, rowHeads);
                int wider = behind[x] | (heads & LETTERS);
                if ((heads & 1) != 0) {
                    wider |= behind[g.left[r]];
                }
                if (x >= START && wider != behind[x]) {
                    behind[x] = wider;
                    changed = true;
                }
            }
            return changed;
        }
    }

    /** From which place of a string to which others each symbol can lead. */
    private static final class Spans {
        /** Each round adds a pair of places to a nonterminal, or is the last. */
        private static final int ROUNDS = NONTERMINAL_COUNT * PLACES * PLACES + 1;

        private final int[][] ends = new int[SYMBOLS][PLACES];

        /** Open: more letters may stand behind the string, and are read at its last place. */
        void fill(Grammar g, Word w, boolean open) {
            for (int x = 1; x < SYMBOLS; x++) {
                for (int i = 0; i < w.length; i++) {
                    ends[x][i] = x == w.letters[i] ? 1 << (i + 1) : 0;
                }
                ends[x][w.length] = open && x < START ? 1 << w.length : 0;
            }
            boolean changed = true;
            for (int round = 0; round < ROUNDS && changed; round++) {
                changed = false;
                for (int i = w.length; i >= 0; i--) {
                    if (widenFrom(g, i)) {
                        changed = true;
                    }
                }
            }
        }

        boolean has(int symbol, int i, int j) {
            return ((ends[symbol][i] >> j) & 1) != 0;
        }

        private boolean widenFrom(Grammar g, int i) {
            boolean changed = false;
            for (int r = 0; r < g.count; r++) {
                int[] row = ends[g.left[r]];
                int wider = row[i] | endsOfRule(g, r, i);
                if (wider != row[i]) {
                    row[i] = wider;
                    changed = true;
                }
            }
            return changed;
        }

        private int endsOfRule(Grammar g, int r, int i) {
            int places = 1 << i;
            for (int q = 0; q < g.length[r] && places != 0; q++) {
                int[] row = ends[g.symbol(r, q)];
                int next = 0;
                for (int p = i; p < PLACES; p++) {
                    if (((places >> p) & 1) != 0) {
                        next |= row[p];
                    }
                }
                places = next;
            }
            return places;
        }
    }

    /** A value for each symbol and each part of a string, joined out of the values of smaller parts. */
    private abstract static class Chart {
        final long[][] values = new long[SYMBOLS][PLACES * PLACES];
        private final long[] sums = new long[PLACES];

        /** The value of what has no tree. */
        abstract long none();

        /** The value of a tree without rules. */
        abstract long unit();

        abstract long either(long a, long b);

        abstract long both(long a, long b);

        /** The values of all nonterminals for the part from i to j, when those of smaller parts stand. */
        abstract void fillPart(Grammar g, int i, int j);

        /** What a chart must know of a string before it is filled. */
        void prepare(Grammar g, Word w) {
        }

        void fill(Grammar g, Word w) {
            prepare(g, w);
            putLetters(w);
            for (int n = 0; n <= w.length; n++) {
                for (int i = 0; i + n <= w.length; i++) {
                    fillPart(g, i, i + n);
                }
            }
        }

        long whole(int symbol, Word w) {
            return values[symbol][w.length];
        }

        static int cell(int i, int j) {
            return i * PLACES + j;
        }

        private void putLetters(Word w) {
            long none = none();
            for (int x = 1; x < SYMBOLS; x++) {
                for (int c = 0; c < PLACES * PLACES; c++) {
                    values[x][c] = none;
                }
            }
            for (int i = 0; i < w.length; i++) {
                values[w.letters[i]][cell(i, i + 1)] = unit();
            }
        }

        /** The value of all ways in which a right side makes the part from i to j. */
        long ofRightSide(Grammar g, int r, int i, int j) {
            for (int m = i; m <= j; m++) {
                sums[m] = m == i ? unit() : none();
            }
            int last = g.length[r] - 1;
            for (int q = 0; q <= last; q++) {
                joinSymbol(values[g.symbol(r, q)], i, q == last ? j : i, j);
            }
            return sums[j];
        }

        /** Downwards, since each sum is made of those at and below its own place. */
        private void joinSymbol(long[] row, int i, int lowest, int j) {
            long none = none();
            for (int m = j; m >= lowest; m--) {
                long total = none;
                for (int k = i; k <= m; k++) {
                    long here = row[cell(k, m)];
                    if (here != none && sums[k] != none) {
                        total = either(total, both(sums[k], here));
                    }
                }
                sums[m] = total;
            }
        }
    }

    /** How many trees. */
    private static final class TreeChart extends Chart {
        private final Spans derived = new Spans();
        /** For each nonterminal those that can be under it with the same part. */
        private final int[] needs = new int[SYMBOLS];

        long none() {
            return 0;
        }

        long unit() {
            return 1;
        }

        long either(long a, long b) {
            return capSum(a, b);
        }

        long both(long a, long b) {
            return capProduct(a, b);
        }

        void prepare(Grammar g, Word w) {
            derived.fill(g, w, false);
        }

        /**
         * A nonterminal is counted after those that it needs, in each round one or more, until none is
         * left that can be. What is never ready is in or above a ring of such needs, which trees can
         * go round any number of times.
         */
        void fillPart(Grammar g, int i, int j) {
            findNeeds(g, i, j);
            int ready = 0;
            for (int round = 0; round < NONTERMINAL_COUNT; round++) {
                for (int a = START; a < SYMBOLS; a++) {
                    if (((ready >> a) & 1) == 0 && (needs[a] & ~ready) == 0) {
                        values[a][cell(i, j)] = ofAllRules(g, a, i, j);
                        ready |= 1 << a;
                    }
                }
            }
            for (int a = START; a < SYMBOLS; a++) {
                if (((ready >> a) & 1) == 0) {
                    values[a][cell(i, j)] = ENDLESS;
                }
            }
        }

        private long ofAllRules(Grammar g, int a, int i, int j) {
            long total = 0;
            for (int r = 0; r < g.count; r++) {
                if (g.left[r] == a) {
                    total = capSum(total, ofRightSide(g, r, i, j));
                }
            }
            return total;
        }

        private void findNeeds(Grammar g, int i, int j) {
            for (int a = START; a < SYMBOLS; a++) {
                needs[a] = 0;
            }
            for (int r = 0; r < g.count; r++) {
                for (int q = 0; q < g.length[r]; q++) {
                    int x = g.symbol(r, q);
                    if (x >= START && derived.has(x, i, j) && othersVanish(g, r, q)) {
                        needs[g.left[r]] |= 1 << x;
                    }
                }
            }
        }

        private boolean othersVanish(Grammar g, int r, int q) {
            for (int p = 0; p < g.length[r]; p++) {
                if (p != q && !derived.has(g.symbol(r, p), 0, 0)) {
                    return false;
                }
            }
            return true;
        }
    }

    /** The least size. */
    private static final class LeastChart extends Chart {
        /** Far above the size of any least tree, of which none is above some ten million. */
        static final long NO_TREE = 1L << 40;

        long none() {
            return NO_TREE;
        }

        long unit() {
            return 0;
        }

        long either(long a, long b) {
            return Math.min(a, b);
        }

        long both(long a, long b) {
            return Math.min(NO_TREE, a + b);
        }

        /** A least tree has no nonterminal under itself with the same part, so the rounds suffice. */
        void fillPart(Grammar g, int i, int j) {
            boolean changed = true;
            for (int round = 0; round < NONTERMINAL_COUNT && changed; round++) {
                changed = false;
                for (int r = 0; r < g.count; r++) {
                    long size = both(1, ofRightSide(g, r, i, j));
                    long[] row = values[g.left[r]];
                    if (size < row[cell(i, j)]) {
                        row[cell(i, j)] = size;
                        changed = true;
                    }
                }
            }
        }
    }

    /** How many trees of each size. */
    private static final class SizeChart {
        private static final int SIZES = LARGEST_SIZE + 1;
        private static final int PARTS = PLACES * (PLACES + 1) / 2;
        /** A right side's rests of two symbols or more that are not the whole: behind one, behind two. */
        private static final int RESTS = LONGEST_RIGHT - 2;

        private final long[][] counts = new long[NONTERMINAL_COUNT][PARTS * SIZES];
        /** Only of parts up to the end in work: a rest is joined with others of the same end alone. */
        private final long[][] rests = new long[MOST_RULES * RESTS][PLACES * SIZES];
        private int begin;
        private int end;

        long countOf(Grammar g, Word w, int size) {
            for (int j = 0; j <= w.length; j++) {
                for (int i = j; i >= 0; i--) {
                    begin = i;
                    end = j;
                    fillPart(g, w, size);
                }
            }
            return counts[0][cell(0, w.length) + size];
        }

        private static int cell(int i, int j) {
            return (j * (j + 1) / 2 + i) * SIZES;
        }

        /** By size, since a rule makes a tree larger than all below it. */
        private void fillPart(Grammar g, Word w, int size) {
            int at = cell(begin, end);
            for (int a = 0; a < NONTERMINAL_COUNT; a++) {
                for (int s = 0; s <= size; s++) {
                    counts[a][at + s] = 0;
                }
            }
            for (int s = 0; s < size; s++) {
                for (int r = 0; r < g.count; r++) {
                    fillRests(g, w, r, s);
                    long[] row = counts[g.left[r] - START];
                    row[at + s + 1] = capSum(row[at + s + 1], ofPart(g, w, r, 0, s));
                }
            }
        }

        private void fillRests(Grammar g, Word w, int r, int s) {
            for (int q = g.length[r] - 2; q >= 1; q--) {
                rests[r * RESTS + q - 1][begin * SIZES + s] = ofPart(g, w, r, q, s);
            }
        }

        /** In how many ways a right side from q on makes the part in work with s rules. */
        private long ofPart(Grammar g, Word w, int r, int q, int s) {
            int behind = g.length[r] - q - 1;
            if (behind < 0) {
                return begin == end && s == 0 ? 1 : 0;
            }
            int x = g.symbol(r, q);
            if (behind == 0) {
                return ofSymbol(w, x, begin, s);
            }
            if (x < START) {
                return begin < end && w.letters[begin] == x ? ofRest(g, w, r, q + 1, s) : 0;
            }
            int y = g.symbol(r, q + 1);
            if (behind == 1 && y < START) {
                return begin < end && w.letters[end - 1] == y ? counts[x - START][cell(begin, end - 1) + s] : 0;
            }
            long[] rest = behind == 1 ? counts[y - START] : rests[r * RESTS + q];
            return join(counts[x - START], rest, behind == 1 ? cell(0, end) : 0, s);
        }

        /** In how many ways one symbol makes the part from i to the end in work with s rules. */
        private long ofSymbol(Word w, int x, int i, int s) {
            if (x >= START) {
                return counts[x - START][cell(i, end) + s];
            }
            return i + 1 == end && s == 0 && w.letters[i] == x ? 1 : 0;
        }

        /** As ofPart, but of the part in work without its first letter, which is filled before it. */
        private long ofRest(Grammar g, Word w, int r, int q, int s) {
            if (q == g.length[r] - 1) {
                return ofSymbol(w, g.symbol(r, q), begin + 1, s);
            }
            return rests[r * RESTS + q - 1][(begin + 1) * SIZES + s];
        }

        /** Over all places where the part in work can be cut, and all sizes on the left of the cut. */
        private long join(long[] heads, long[] tails, int tailsAt, int s) {
            long total = 0;
            for (int m = begin; m <= end; m++) {
                int head = cell(begin, m);
                int tail = tailsAt + m * SIZES + s;
                for (int t = 1; t <= s; t++) {
                    if (heads[head + t] != 0 && tails[tail - t] != 0) {
                        total = capSum(total, capProduct(heads[head + t], tails[tail - t]));
                    }
                }
            }
            return total;
        }
    }

    /**
     * All strings of up to six letters in their order, with the symbols that have a tree with each,
     * and those that have several. The rests of all right sides are worked out at once, as masks
     * with a bit for each rule: in one way or more, in two or more.
     */
    private static final class Listing {
        /** How many strings are shorter than so many letters. */
        private static final int[] SHORTER = {0, 1, 4, 13, 40, 121, 364};
        private static final int[] OF_LENGTH = {1, 3, 9, 27, 81, 243, 729};
        private static final int STRINGS = 1093;
        /** Each round adds a nonterminal to those with a tree or with several, or is the last. */
        private static final int ROUNDS = 2 * NONTERMINAL_COUNT + 1;

        private final int[] some = new int[STRINGS];
        private final int[] several = new int[STRINGS];
        private final int[][] restSome = new int[LONGEST_RIGHT + 1][STRINGS];
        private final int[][] restSeveral = new int[LONGEST_RIGHT + 1][STRINGS];
        /** The rules that have a symbol at a place, that have a left side, that have a length. */
        private final int[][] rulesWith = new int[LONGEST_RIGHT][SYMBOLS];
        private final int[] rulesOf = new int[SYMBOLS];
        private final int[] rulesEnding = new int[LONGEST_RIGHT + 1];
        private final int[] innerSome = new int[LONGEST_RIGHT];
        private final int[] innerSeveral = new int[LONGEST_RIGHT];
        private int sumSome;
        private int sumSeveral;
        private int lengthsFilled;
        private int version = -1;

        void fillUpTo(Grammar g, int length) {
            if (version != g.version) {
                version = g.version;
                lengthsFilled = 0;
                sortRules(g);
            }
            for (int n = lengthsFilled; n <= length; n++) {
                for (int rank = 0; rank < OF_LENGTH[n]; rank++) {
                    fillString(n, rank);
                }
                lengthsFilled = n + 1;
            }
        }

        int derivedOfLength(int length) {
            int total = 0;
            for (int rank = 0; rank < OF_LENGTH[length]; rank++) {
                total += (some[SHORTER[length] + rank] >> START) & 1;
            }
            return total;
        }

        int leastDerived(int length, int lowestRank) {
            return leastIn(some, length, lowestRank);
        }

        int leastWithSeveral(int length) {
            return leastIn(several, length, 0);
        }

        private static int leastIn(int[] sets, int length, int lowestRank) {
            for (int rank = lowestRank; rank < OF_LENGTH[length]; rank++) {
                if (((sets[SHORTER[length] + rank] >> START) & 1) != 0) {
                    return code(length, rank);
                }
            }
            return -1;
        }

        private static int code(int length, int rank) {
            int number = 0;
            int rest = rank;
            for (int p = length - 1; p >= 0; p--) {
                number |= (rest % 3 + 1) << (2 * p);
                rest /= 3;
            }
            return number;
        }

        private void sortRules(Grammar g) {
            Arrays.fill(rulesOf, 0);
            Arrays.fill(rulesEnding, 0);
            for (int q = 0; q < LONGEST_RIGHT; q++) {
                Arrays.fill(rulesWith[q], 0);
            }
            for (int r = 0; r < g.count; r++) {
                rulesOf[g.left[r]] |= 1 << r;
                rulesEnding[g.length[r]] |= 1 << r;
                for (int q = 0; q < g.length[r]; q++) {
                    rulesWith[q][g.symbol(r, q)] |= 1 << r;
                }
            }
            restSome[LONGEST_RIGHT][0] = rulesEnding[LONGEST_RIGHT];
        }

        private void fillString(int length, int rank) {
            int string = SHORTER[length] + rank;
            some[string] = length == 1 ? 1 << (rank + 1) : 0;
            several[string] = 0;
            for (int q = 0; q < LONGEST_RIGHT; q++) {
                sumSome = 0;
                sumSeveral = 0;
                addInnerSplits(q, length, rank);
                innerSome[q] = sumSome;
                innerSeveral[q] = sumSeveral;
            }
            boolean changed = true;
            for (int round = 0; round < ROUNDS && changed; round++) {
                fillRests(string);
                changed = widenSymbols(string);
            }
        }

        /** Splits into two strings that are both shorter, and so known. */
        private void addInnerSplits(int q, int length, int rank) {
            for (int m = 1; m < length; m++) {
                int tails = OF_LENGTH[length - m];
                addSplit(q, SHORTER[m] + rank / tails, SHORTER[length - m] + rank % tails);
            }
        }

        /** From the last symbol to the first, since each rest is made of a symbol and a shorter rest. */
        private void fillRests(int string) {
            for (int q = LONGEST_RIGHT - 1; q >= 0; q--) {
                sumSome = innerSome[q];
                sumSeveral = innerSeveral[q];
                addSplit(q, 0, string);
                if (string == 0) {
                    addWays(rulesEnding[q], 0);
                } else {
                    addSplit(q, string, 0);
                }
                restSome[q][string] = sumSome;
                restSeveral[q][string] = sumSeveral;
            }
        }

        private boolean widenSymbols(int string) {
            int before = some[string];
            int beforeSeveral = several[string];
            for (int a = START; a < SYMBOLS; a++) {
                int rules = restSome[0][string] & rulesOf[a];
                if (rules != 0) {
                    some[string] |= 1 << a;
                }
                if ((rules & (rules - 1)) != 0 || (restSeveral[0][string] & rulesOf[a]) != 0) {
                    several[string] |= 1 << a;
                }
            }
            return some[string] != before || several[string] != beforeSeveral;
        }

        /** The symbol at q makes the one string, the rest behind it the other. */
        private void addSplit(int q, int head, int tail) {
            int rest = restSome[q + 1][tail];
            if (rest == 0) {
                return;
            }
            int start = rulesStarting(q, some[head]);
            int startSeveral = rulesStarting(q, several[head]);
            addWays(start & rest, (startSeveral & rest) | (start & restSeveral[q + 1][tail]));
        }

        private void addWays(int waysSome, int waysSeveral) {
            sumSeveral |= waysSeveral | (sumSome & waysSome);
            sumSome |= waysSome;
        }

        private int rulesStarting(int q, int symbols) {
            int rules = 0;
            for (int x = 1; x < SYMBOLS; x++) {
                if (((symbols >> x) & 1) != 0) {
                    rules |= rulesWith[q][x];
                }
            }
            return rules;
        }
    }
}
