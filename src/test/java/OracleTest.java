import java.util.Arrays;

/** Many grammars, kept and changed in the same object, against the slower ways of Oracle. */
public final class OracleTest {
    private static final int GRAMMARS = 400;
    /** So many more lead through all nonterminals one after the other. */
    private static final int CHAINS = 100;
    private static final int CHANGES = 4;

    private final Check check = new Check();

    public static void main(String[] args) {
        OracleTest test = new OracleTest();
        for (int seed = 0; seed < GRAMMARS + CHAINS; seed++) {
            Grammars grammars = new Grammars(seed);
            if (seed < GRAMMARS) {
                grammars.startAnew();
            } else {
                grammars.startChain();
            }
            for (int n = 0; n < CHANGES; n++) {
                test.symbols(grammars);
                test.words(grammars, 5);
                grammars.change();
            }
            test.longWord(grammars);
        }
        test.check.finish();
    }

    private void symbols(Grammars grammars) {
        TreeCount x = grammars.object;
        Oracle oracle = new Oracle(grammars.rules);
        for (int what = 0; what <= 5; what++) {
            check.due(grammars.text() + " look(" + what + ")", oracle.look(what), x.look(what));
        }
        for (int symbol = 4; symbol <= 11; symbol++) {
            check.due(grammars.text() + " first(" + symbol + ")", oracle.first(symbol), x.first(symbol));
            check.due(grammars.text() + " follow(" + symbol + ")", oracle.follow(symbol), x.follow(symbol));
        }
    }

    private void words(Grammars grammars, int longest) {
        TreeCount x = grammars.object;
        Oracle oracle = new Oracle(grammars.rules);
        for (int n = 0; n < 4; n++) {
            int[] word = n == 0 ? new int[0] : grammars.word(longest);
            int string = Grammars.number(word);
            String of = grammars.text() + " of " + Arrays.toString(word) + " ";
            check.due(of + "begins", oracle.begins(4, word), x.begins(string));
            check.due(of + "least", oracle.least(word), x.least(string));
            int size = grammars.below(n == 3 ? 31 : 10);
            check.due(of + "sized " + size, oracle.sized(word, size), x.sized(string, size));
            int symbol = n % 2 == 0 ? 4 : 1 + grammars.below(11);
            if (symbol >= 4) {
                check.due(of + "trees of " + symbol, oracle.trees(symbol, word), x.trees(symbol, string));
            }
        }
    }

    private void longWord(Grammars grammars) {
        TreeCount x = grammars.object;
        Oracle oracle = new Oracle(grammars.rules);
        int[] word = grammars.word(8);
        int string = Grammars.number(word);
        String of = grammars.text() + " of " + Arrays.toString(word) + " ";
        check.due(of + "begins", oracle.begins(4, word), x.begins(string));
        check.due(of + "least", oracle.least(word), x.least(string));
        check.due(of + "sized 17", oracle.sized(word, 17), x.sized(string, 17));
        check.due(of + "trees", oracle.trees(4, word), x.trees(4, string));
    }
}
