import java.util.ArrayList;
import java.util.List;

/** Many grammars, always the same ones, kept both in an object and as a list. */
final class Grammars {
    private long seed;
    TreeCount object;
    final List<int[]> rules = new ArrayList<>();
    private int nonterminals;
    private int letters;
    private int longest;

    Grammars(long seed) {
        this.seed = seed * 7919 + 17;
    }

    int below(int bound) {
        seed = seed * 6364136223846793005L + 1442695040888963407L;
        return (int) ((seed >>> 33) % bound);
    }

    void startAnew() {
        object = new TreeCount();
        rules.clear();
        nonterminals = 1 + below(below(3) == 0 ? 8 : 4);
        letters = 1 + below(3);
        longest = 1 + below(4);
        int count = 1 + below(below(4) == 0 ? 24 : 9);
        for (int n = 0; n < count; n++) {
            add();
        }
    }

    /** Some rules go and others come, in the same object. */
    void change() {
        int gone = below(3);
        for (int n = 0; n < gone && !rules.isEmpty(); n++) {
            int i = below(rules.size());
            rules.remove(i);
            object.drop(i);
        }
        int more = below(4);
        for (int n = 0; n < more; n++) {
            add();
        }
    }

    private void add() {
        if (rules.size() == 24) {
            return;
        }
        int[] rule = new int[1 + below(longest + 1)];
        rule[0] = 4 + below(nonterminals);
        for (int q = 1; q < rule.length; q++) {
            rule[q] = below(2) == 0 ? 1 + below(letters) : 4 + below(nonterminals);
        }
        rules.add(rule);
        addTo(object, rule);
    }

    private static void addTo(TreeCount x, int[] rule) {
        int right = 0;
        for (int q = 1; q < rule.length; q++) {
            right |= rule[q] << (4 * (q - 1));
        }
        x.rule(rule[0], right);
    }

    /** A new object with the same rules. */
    TreeCount another() {
        TreeCount x = new TreeCount();
        for (int[] rule : rules) {
            addTo(x, rule);
        }
        return x;
    }

    int[] word(int longestWord) {
        int[] word = new int[below(longestWord + 1)];
        for (int p = 0; p < word.length; p++) {
            word[p] = 1 + below(letters);
        }
        return word;
    }

    static int number(int[] word) {
        int number = 0;
        for (int p = 0; p < word.length; p++) {
            number |= word[p] << (2 * p);
        }
        return number;
    }

    String text() {
        StringBuilder text = new StringBuilder();
        for (int[] rule : rules) {
            text.append(java.util.Arrays.toString(rule));
        }
        return text.toString();
    }
}
