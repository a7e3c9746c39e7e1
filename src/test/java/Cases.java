/** What tests by examples share: ways to write down grammars and strings, and numbers that are none. */
abstract class Cases {
    static final int LOWEST = Integer.MIN_VALUE;
    static final int HIGHEST = Integer.MAX_VALUE;
    static final long MANY = 1000000000000000L;
    /** A 0 ahead of a letter, a bit above the sixteenth, or below 0. */
    static final int[] NO_STRINGS = {-1, 4, 8, 12, 16, 17, 64, 0x4000, 0x5554, 0x5545, 0x10000, 0x10001, 0x15555,
        0x40000000, HIGHEST, LOWEST, LOWEST + 1, LOWEST + 0x5555};
    static final int[] NO_NONTERMINALS = {-1, 0, 1, 2, 3, 12, 13, 15, 16, 20, LOWEST, LOWEST + 4, HIGHEST};

    /** Each nonterminal has the next one under it; the rules from first to last, and from last to first. */
    static final String CHAIN = "4>5 5>6 6>7 7>8 8>9 9>a a>b";
    static final String CHAIN_UPWARDS = "a>b 9>a 8>9 7>8 6>7 5>6 4>5";

    final Check check = new Check();

    /** A right side as a number. */
    static int right(int... symbols) {
        int number = 0;
        for (int q = 0; q < symbols.length; q++) {
            number |= symbols[q] << (4 * q);
        }
        return number;
    }

    /** A string as a number, of its letters written out. */
    static int string(String letters) {
        int number = 0;
        for (int p = 0; p < letters.length(); p++) {
            number |= (letters.charAt(p) - '0') << (2 * p);
        }
        return number;
    }

    /** An object with rules, each a left side and then its right side. */
    static TreeCount with(int[]... rules) {
        TreeCount x = new TreeCount();
        for (int[] rule : rules) {
            int[] symbols = new int[rule.length - 1];
            System.arraycopy(rule, 1, symbols, 0, symbols.length);
            x.rule(rule[0], right(symbols));
        }
        return x;
    }

    static int[] rule(int... leftAndRight) {
        return leftAndRight;
    }

    /** An object with rules written out, as in "4>4a 4>1 a>": symbols are hexadecimal digits. */
    static TreeCount grammar(String rules) {
        TreeCount x = new TreeCount();
        add(x, rules);
        return x;
    }

    /** The same rules behind those that are there. */
    static void add(TreeCount x, String rules) {
        for (String rule : rules.split(" ")) {
            int number = 0;
            for (int q = rule.length() - 1; q >= 2; q--) {
                number = 16 * number + Character.digit(rule.charAt(q), 16);
            }
            x.rule(Character.digit(rule.charAt(0), 16), number);
        }
    }

    /** A rule written out, as often as told. */
    static String times(int count, String rule) {
        return (rule + " ").repeat(count).trim();
    }

    /** A set of symbols. */
    static int bits(int... places) {
        int set = 0;
        for (int place : places) {
            set |= 1 << place;
        }
        return set;
    }
}
