import java.util.ArrayList;
import java.util.List;

/** What is said of all strings of up to six letters, against what trees says of each alone. */
public final class ListingTest {
    private static final int GRAMMARS = 300;
    /** So many more lead through all nonterminals one after the other. */
    private static final int CHAINS = 40;
    /** Behind so many, another object is asked, since one is used for 512 calls at most. */
    private static final int STRINGS_FOR_ONE = 400;

    private final Check check = new Check();
    /** All strings of up to six letters, from the least one on. */
    private final List<int[]> words = new ArrayList<>();

    public static void main(String[] args) {
        ListingTest test = new ListingTest();
        test.listWords();
        for (int seed = 0; seed < GRAMMARS + CHAINS; seed++) {
            Grammars grammars = new Grammars(1000 + seed);
            if (seed < GRAMMARS) {
                grammars.startAnew();
            } else {
                grammars.startChain();
            }
            test.compare(grammars);
            grammars.change();
            test.compare(grammars);
        }
        test.check.finish();
    }

    private void listWords() {
        words.add(new int[0]);
        for (int at = 0; words.get(at).length < 6; at++) {
            int[] shorter = words.get(at);
            for (int letter = 1; letter <= 3; letter++) {
                int[] longer = java.util.Arrays.copyOf(shorter, shorter.length + 1);
                longer[shorter.length] = letter;
                words.add(longer);
            }
        }
        check.due("all words", 1093, words.size());
    }

    private void compare(Grammars grammars) {
        TreeCount x = grammars.object;
        long[] trees = new long[words.size()];
        int[] derived = new int[7];
        int all = 0;
        TreeCount other = null;
        for (int at = 0; at < trees.length; at++) {
            if (at % STRINGS_FOR_ONE == 0) {
                other = grammars.another();
            }
            trees[at] = other.trees(4, Grammars.number(words.get(at)));
            derived[words.get(at).length] += trees[at] != 0 ? 1 : 0;
            all += trees[at] != 0 ? 1 : 0;
        }
        if (grammars.below(2) == 0) {
            check.due(grammars.text() + " look(6)", all, x.look(6));
        }
        for (int n = 0; n < 5; n++) {
            compareFrom(grammars, trees, grammars.below(trees.length));
        }
        compareFrom(grammars, trees, 0);
        for (int length = 0; length <= 6; length++) {
            check.due(grammars.text() + " ambiguous(" + length + ")", leastSeveral(trees, length), x.ambiguous(length));
            check.due(grammars.text() + " strings(" + length + ")", derived[length], x.strings(length));
        }
        check.due(grammars.text() + " look(6)", all, x.look(6));
    }

    private void compareFrom(Grammars grammars, long[] trees, int lowest) {
        int want = -1;
        for (int at = trees.length - 1; at >= lowest; at--) {
            want = trees[at] != 0 ? Grammars.number(words.get(at)) : want;
        }
        int string = Grammars.number(words.get(lowest));
        check.due(grammars.text() + " from(" + string + ")", want, grammars.object.from(string));
    }

    private int leastSeveral(long[] trees, int length) {
        for (int at = 0; at < trees.length && words.get(at).length <= length; at++) {
            if (trees[at] < 0 || trees[at] > 1) {
                return Grammars.number(words.get(at));
            }
        }
        return -1;
    }
}
