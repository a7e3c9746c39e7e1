import java.util.ArrayList;
import java.util.List;

/** Many grammars, always the same ones, kept both in an object and as a list. */
final class Grammars {
    private long seed;
    TreeCount object;
    final List<int[]> rules = new ArrayList<>();
    private int nonterminals;
    private int letters;
    private int longest;
    /** All eight nonterminals, if rules shall lead from each to the next, else none. */
    private int[] way = new int[0];
    /** The place on the way that the next such rule leads from, and how far to go on behind it. */
    private int place;
    private int stride;

    Grammars(long seed) {
        this.seed = seed * 7919 + 17;
    }

    int below(int bound) {
        seed = seed * 6364136223846793005L + 1442695040888963407L;
        return (int) ((seed >>> 33) % bound);
    }

    void startAnew() {
        object = new TreeCount();
        rules.clear();
        chooseKind();
        int count = 1 + below(below(4) == 0 ? 24 : 9);
        for (int n = 0; n < count; n++) {
            add();
        }
    }

    /** A grammar that leads through all nonterminals, the rules in one of several orders. */
    void startChain() {
        object = new TreeCount();
        rules.clear();
        chooseChain();
        int count = 8 + below(17);
        for (int n = 0; n < count; n++) {
            add();
        }
    }

    /** What rules are like from here on. */
    void chooseKind() {
        nonterminals = 1 + below(below(3) == 0 ? 8 : 4);
        letters = 1 + below(3);
        longest = 1 + below(4);
        way = new int[0];
    }

    /** From here on rules lead through all nonterminals, but for a few of others. */
    void chooseChain() {
        chooseKind();
        nonterminals = 8;
        way = new int[8];
        for (int at = 0; at < 8; at++) {
            int other = at == 0 ? 0 : 1 + below(at);
            way[at] = way[other];
            way[other] = 4 + at;
        }
        place = below(8);
        stride = 1 + 2 * below(4);
    }

    /** Some rules go and others come, in the same object. */
    void change() {
        int gone = below(3);
        for (int n = 0; n < gone && !rules.isEmpty(); n++) {
            int i = below(rules.size());
            rules.remove(i);
            object.drop(i);
        }
        int more = below(4);
        for (int n = 0; n < more; n++) {
            add();
        }
    }

    private void add() {
        if (rules.size() == 24) {
            return;
        }
        int[] rule = newRule();
        rules.add(rule);
        object.rule(rule[0], right(rule));
    }

    /** A rule: its left side and then its right side. */
    int[] newRule() {
        if (way.length > 0 && below(5) != 0) {
            return nextStep();
        }
        int[] rule = new int[1 + below(longest + 1)];
        rule[0] = below(4) == 0 ? 4 : 4 + below(nonterminals);
        for (int q = 1; q < rule.length; q++) {
            rule[q] = below(2) == 0 ? 1 + below(letters) : 4 + below(nonterminals);
        }
        return rule;
    }

    /** The last one on the way ends it, or leads to the first. */
    private int[] nextStep() {
        place = (place + stride) % 8;
        int from = way[place];
        int to = way[(place + 1) % 8];
        int letter = 1 + below(letters);
        int kind = below(place == 7 ? 6 : 8);
        if (place == 7 && kind < 4) {
            return kind < 2 ? new int[] {from} : new int[] {from, letter};
        }
        switch (kind) {
            case 4:
                return new int[] {from, letter, to};
            case 5:
                return new int[] {from, to, letter};
            case 6:
                return new int[] {from, to, to};
            case 7:
                return new int[] {from, 4 + below(8), to};
            default:
                return new int[] {from, to};
        }
    }

    /** A rule's right side as a number. */
    static int right(int[] rule) {
        int right = 0;
        for (int q = 1; q < rule.length; q++) {
            right |= rule[q] << (4 * (q - 1));
        }
        return right;
    }

    /** A new object with the same rules. */
    TreeCount another() {
        TreeCount x = new TreeCount();
        for (int[] rule : rules) {
            x.rule(rule[0], right(rule));
        }
        return x;
    }

    int[] word(int longestWord) {
        int[] word = new int[below(longestWord + 1)];
        for (int p = 0; p < word.length; p++) {
            word[p] = 1 + below(letters);
        }
        return word;
    }

    static int number(int[] word) {
        int number = 0;
        for (int p = 0; p < word.length; p++) {
            number |= word[p] << (2 * p);
        }
        return number;
    }

    /** A word as its letters written out. */
    static String letters(int[] word) {
        StringBuilder text = new StringBuilder();
        for (int letter : word) {
            text.append(letter);
        }
        return text.toString();
    }

    String text() {
        StringBuilder text = new StringBuilder();
        for (int[] rule : rules) {
            text.append(java.util.Arrays.toString(rule));
        }
        return text.toString();
    }
}
