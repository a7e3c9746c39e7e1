/** Each promise of the document by examples: ordinary inputs, the edges that it names, wrong inputs. */
public final class PromisesTest extends Cases {
    public static void main(String[] args) {
        PromisesTest test = new PromisesTest();
        test.newObject();
        test.ruleCounts();
        test.ruleRefuses();
        test.dropMoves();
        test.treesCounts();
        test.treesEndless();
        test.treesMany();
        test.treesRefuses();
        test.sizedCounts();
        test.sizedMany();
        test.sizedRefuses();
        test.leastFinds();
        test.stringsCounts();
        test.ambiguousFinds();
        test.fromFinds();
        test.beginsTells();
        test.firstTells();
        test.followTells();
        test.lookTells();
        test.objectsApart();
        test.readmeExample();
        test.check.finish();
    }

    private void newObject() {
        TreeCount x = new TreeCount();
        for (int what = 0; what <= 6; what++) {
            check.due("new: look(" + what + ")", what == 3 ? 16 : 0, x.look(what));
        }
        for (int symbol = 4; symbol <= 11; symbol++) {
            check.due("new: trees", 0, x.trees(symbol, 0));
            check.due("new: first", 0, x.first(symbol));
            check.due("new: follow", symbol == 4 ? 1 : 0, x.follow(symbol));
        }
        check.due("new: sized", 0, x.sized(0, 0));
        check.due("new: least", 0, x.least(1));
        check.due("new: strings", 0, x.strings(0));
        check.due("new: ambiguous", -1, x.ambiguous(6));
        check.due("new: from", -1, x.from(0));
        check.due("new: begins", false, x.begins(0));
        check.dueThrow("new: drop(0)", Check.NO_ELEMENT, () -> x.drop(0));
    }

    private void ruleCounts() {
        TreeCount x = new TreeCount();
        for (int n = 1; n <= 24; n++) {
            check.due("rule " + n, n, x.rule(4 + n % 8, n % 2 == 0 ? 0xBBBB : 0));
            check.due("look(0) of " + n, n, x.look(0));
        }
        check.dueThrow("rule 25", Check.STATE, () -> x.rule(4, 1));
        check.dueThrow("rule 25 of wrong left", Check.ARGUMENT, () -> x.rule(3, 1));
        check.dueThrow("rule 25 of wrong right", Check.ARGUMENT, () -> x.rule(4, 12));
        check.due("look(0) behind refusals", 24, x.look(0));
        check.due("drop of 24", 23, x.drop(23));
        check.due("rule 24 again", 24, x.rule(11, right(1, 2, 3, 11)));

        TreeCount twice = with(rule(4, 1), rule(4, 1), rule(4, 1));
        check.due("the same rule three times", 3, twice.trees(4, 1));
        check.due("the same rule three times, of use", 3, twice.look(5));
    }

    private void ruleRefuses() {
        TreeCount x = with(rule(4, 1));
        for (int left : NO_NONTERMINALS) {
            check.dueThrow("rule of left " + left, Check.ARGUMENT, () -> x.rule(left, 1));
        }
        int[] wrong = {-1, 12, 13, 15, right(1, 12), right(1, 1, 14), right(1, 1, 1, 12), right(0, 1), right(1, 0, 1),
            right(1, 1, 0, 1), right(0, 0, 0, 4), 0x10000, 0x11111, 0x7FFFFFFF, 0x80000000, 0x80000001, 0xFFFF1111};
        for (int right : wrong) {
            check.dueThrow("rule of right " + right, Check.ARGUMENT, () -> x.rule(4, right));
        }
        check.due("look(0) behind refusals", 1, x.look(0));
        check.due("trees behind refusals", 1, x.trees(4, 1));
        check.due("the longest right side", 2, x.rule(11, 0xBBBB));
        check.due("the empty right side", 3, x.rule(4, 0));
    }

    private void dropMoves() {
        TreeCount x = with(rule(4, 1), rule(4, 2), rule(4, 3), rule(4));
        check.dueThrow("drop(-1)", Check.NO_ELEMENT, () -> x.drop(-1));
        check.dueThrow("drop(4) of four", Check.NO_ELEMENT, () -> x.drop(4));
        check.dueThrow("drop of the greatest", Check.NO_ELEMENT, () -> x.drop(0x7FFFFFFF));
        check.dueThrow("drop of the least", Check.NO_ELEMENT, () -> x.drop(0x80000000));
        check.due("look(0) behind refusals", 4, x.look(0));
        check.due("drop(1)", 3, x.drop(1));
        check.due("first behind drop(1)", 1 | 2 | 8, x.first(4));
        check.due("drop(1) again", 2, x.drop(1));
        check.due("first behind drop(1) again", 1 | 2, x.first(4));
        check.due("drop of the last one", 1, x.drop(1));
        check.due("first behind three drops", 2, x.first(4));
        check.due("drop of the only one", 0, x.drop(0));
        check.due("first behind all drops", 0, x.first(4));
        check.dueThrow("drop without rules", Check.NO_ELEMENT, () -> x.drop(0));
    }

    private void treesCounts() {
        TreeCount x = with(rule(4, 4, 4), rule(4, 1), rule(5, 2), rule(5, 4, 5));
        long[] catalan = {0, 1, 1, 2, 5, 14, 42, 132, 429};
        StringBuilder ones = new StringBuilder();
        for (int n = 0; n <= 8; n++) {
            check.due("trees of " + n + " letters", catalan[n], x.trees(4, string(ones.toString())));
            ones.append('1');
        }
        check.due("trees of another nonterminal", 5, x.trees(5, string("1112")));
        check.due("trees of a nonterminal without rules", 0, x.trees(11, 1));
        check.due("trees of a letter not there", 0, x.trees(4, string("1311")));
        for (int letter = 1; letter <= 3; letter++) {
            for (int other = 0; other <= 3; other++) {
                check.due("letter " + letter + " with " + other, letter == other ? 1 : 0, x.trees(letter, other));
            }
            check.due("letter " + letter + " twice", 0, x.trees(letter, letter * 5));
        }
        TreeCount four = with(rule(4, 5, 5, 5, 5), rule(5, 1), rule(5), rule(5, 1, 1));
        check.due("1 of four parts", 4, four.trees(4, string("1")));
        check.due("11 of four parts", 10, four.trees(4, string("11")));
        check.due("11111111 of four parts", 1, four.trees(4, string("11111111")));
        check.due("nothing of four parts", 1, four.trees(4, 0));
    }

    private void treesEndless() {
        TreeCount self = with(rule(4, 4), rule(5, 4, 6), rule(6, 2), rule(7, 4, 4), rule(7, 1));
        check.due("a ring without an end", 0, self.trees(4, 1));
        self.rule(4, 1);
        check.due("a ring", -1, self.trees(4, 1));
        check.due("above a ring", -1, self.trees(5, string("12")));
        check.due("twice a ring", -1, self.trees(7, string("11")));
        check.due("a ring in another's way", 1, self.trees(7, 1));
        check.due("a ring with another string", 0, self.trees(4, 2));
        check.due("a ring beside what is not there", 0, self.trees(5, string("11")));

        TreeCount empty = with(rule(4, 1, 5), rule(5, 5, 5), rule(5), rule(6, 6, 5), rule(6, 1));
        check.due("a ring of the empty string", -1, empty.trees(5, 0));
        check.due("a letter and such a ring", -1, empty.trees(4, 1));
        check.due("a ring beside what vanishes", -1, empty.trees(6, 1));
        check.due("no letter and such a ring", 0, empty.trees(4, 0));

        TreeCount chain = with(rule(4, 5), rule(5, 6), rule(6, 7), rule(7, 8), rule(8, 9), rule(9, 10), rule(10, 11),
            rule(11, 1), rule(11, 2, 4));
        check.due("a long chain", 1, chain.trees(4, 1));
        check.due("a long chain round by a letter", 1, chain.trees(4, string("2221")));
        chain.rule(11, right(4));
        check.due("a long ring", -1, chain.trees(4, 1));
        check.due("a long ring, from its middle", -1, chain.trees(8, string("21")));

        TreeCount unproductive = with(rule(4, 4, 5), rule(4, 1), rule(5, 5));
        check.due("a ring with what derives nothing", 1, unproductive.trees(4, 1));
        TreeCount sided = with(rule(4, 5, 4, 6), rule(4, 1), rule(5, 2), rule(5), rule(6, 3), rule(6));
        check.due("a ring, if both sides vanish", -1, sided.trees(4, 1));
        sided.drop(5);
        check.due("no ring, if one side does not", 1, sided.trees(4, 1));
        check.due("nor with that side", 1, sided.trees(4, string("213")));
    }

    private void treesMany() {
        TreeCount x = new TreeCount();
        for (int n = 0; n < 10; n++) {
            x.rule(5, 1);
        }
        x.rule(4, right(5, 5, 5, 5));
        x.rule(6, right(4, 4));
        x.rule(7, right(5, 5, 5));
        x.rule(8, right(4, 7));
        check.due("ten to the fourth", 10000L, x.trees(4, string("1111")));
        check.due("ten to the seventh", 10000000L, x.trees(8, string("1111111")));
        check.due("ten to the eighth", 100000000L, x.trees(6, string("11111111")));

        TreeCount empty = new TreeCount();
        for (int n = 0; n < 10; n++) {
            empty.rule(5, 0);
        }
        empty.rule(6, right(5, 5, 5));
        empty.rule(7, right(6, 6, 5, 5));
        empty.rule(8, right(7, 6, 6));
        empty.rule(9, right(7, 6, 6, 5));
        empty.rule(10, right(7, 7, 7, 7));
        empty.rule(11, right(10, 10, 10, 10));
        empty.rule(4, right(11, 11, 11, 11));
        check.due("ten to the fourteenth", 100000000000000L, empty.trees(8, 0));
        check.due("ten to the fifteenth", 1000000000000000L, empty.trees(9, 0));
        check.due("ten to the thirty-second", 1000000000000000L, empty.trees(10, 0));
        check.due("far more", 1000000000000000L, empty.trees(4, 0));
        check.due("far more, and no letter", 0, empty.trees(4, 1));
        empty.rule(6, right(6));
        check.due("no end rather than many", -1, empty.trees(4, 0));
        empty.drop(empty.look(0) - 1);
        empty.drop(0);
        check.due("nine to the eighth", 43046721L, empty.trees(7, 0));
        check.due("below, by a little", 22876792454961L, empty.trees(8, 0));
        check.due("nine to the fifteenth", 205891132094649L, empty.trees(9, 0));
    }

    private void treesRefuses() {
        TreeCount x = with(rule(4, 1));
        for (int symbol : new int[] {-1, 0, 12, 16, 0x7FFFFFFF, 0x80000000}) {
            check.dueThrow("trees of symbol " + symbol, Check.ARGUMENT, () -> x.trees(symbol, 1));
        }
        for (int string : NO_STRINGS) {
            check.dueThrow("trees of string " + string, Check.ARGUMENT, () -> x.trees(4, string));
            check.dueThrow("trees of a letter and string " + string, Check.ARGUMENT, () -> x.trees(1, string));
        }
        check.due("trees behind refusals", 1, x.trees(4, 1));
    }

    private void sizedCounts() {
        TreeCount x = with(rule(4, 4, 4), rule(4, 1), rule(4));
        check.due("no rules at all", 0, x.sized(0, 0));
        check.due("the empty one by one rule", 1, x.sized(0, 1));
        check.due("the empty one by two", 0, x.sized(0, 2));
        check.due("the empty one by three", 1, x.sized(0, 3));
        check.due("the empty one by 29", 2674440, x.sized(0, 29));
        check.due("the empty one by 30", 0, x.sized(0, 30));
        check.due("1 by one", 1, x.sized(1, 1));
        check.due("1 by three", 2, x.sized(1, 3));
        check.due("11 by three", 1, x.sized(5, 3));
        check.due("11111111 by fifteen", 429, x.sized(0x5555, 15));
        check.due("11111111 by fourteen", 0, x.sized(0x5555, 14));
        check.due("11111112", 0, x.sized(string("11111112"), 15));

        TreeCount ring = with(rule(4, 4), rule(4, 4), rule(4, 1));
        check.due("a ring of two ways, 30", 1 << 29, ring.sized(1, 30));
        TreeCount four = with(rule(4, 5, 2, 6, 3), rule(5, 5, 1), rule(5), rule(6, 1, 1, 6), rule(6, 1));
        check.due("four parts", 1, four.sized(string("1121113"), 6));
        check.due("four parts, another size", 0, four.sized(string("1121113"), 7));
        TreeCount other = with(rule(5, 1));
        check.due("not the start's", 0, other.sized(1, 1));
    }

    private void sizedMany() {
        TreeCount x = with(rule(4, 4), rule(4, 4), rule(4, 4), rule(4, 4), rule(4, 1));
        check.due("4 to the 24th", 281474976710656L, x.sized(1, 25));
        check.due("4 to the 25th", 1000000000000000L, x.sized(1, 26));
        check.due("4 to the 29th", 1000000000000000L, x.sized(1, 30));
        check.due("4 to the 29th of none", 0, x.sized(2, 30));
    }

    private void sizedRefuses() {
        TreeCount x = with(rule(4, 1));
        for (int string : NO_STRINGS) {
            check.dueThrow("sized of string " + string, Check.ARGUMENT, () -> x.sized(string, 1));
            check.dueThrow("least of string " + string, Check.ARGUMENT, () -> x.least(string));
        }
        for (int size : new int[] {-1, 31, 0x7FFFFFFF, 0x80000000}) {
            check.dueThrow("sized of size " + size, Check.ARGUMENT, () -> x.sized(1, size));
        }
        check.due("the largest size", 0, x.sized(1, 30));
        check.due("the least size", 0, x.sized(1, 0));
    }

    private void leastFinds() {
        TreeCount x = with(rule(4, 5, 4), rule(4, 1), rule(5, 5), rule(5, 6), rule(6, 1), rule(4, 6, 6, 6));
        check.due("1", 1, x.least(1));
        check.due("11", 4, x.least(5));
        check.due("111", 4, x.least(21));
        check.due("1111", 7, x.least(85));
        check.due("the empty one", 0, x.least(0));
        check.due("2", 0, x.least(2));

        TreeCount deep = new TreeCount();
        for (int a = 4; a < 11; a++) {
            deep.rule(a, right(a + 1, a + 1, a + 1, a + 1));
        }
        deep.rule(11, 0);
        check.due("the deepest empty tree", 21845, deep.least(0));
        deep.rule(11, right(1, 11));
        check.due("a letter in it", 21846, deep.least(1));
        check.due("eight letters in it", 21853, deep.least(0x5555));
        deep.rule(4, right(4, 4, 3));
        check.due("another way round", 21846, deep.least(1));
        check.due("the deepest twice", 2 * 21845 + 1, deep.least(3));
        deep.rule(8, 0);
        check.due("a shorter way", 341, deep.least(0));
    }

    private void stringsCounts() {
        TreeCount x = with(rule(4, 1, 4), rule(4, 2, 4), rule(4, 3, 4), rule(4));
        int all = 1;
        for (int n = 0; n <= 6; n++) {
            check.due("all strings of length " + n, all, x.strings(n));
            all *= 3;
        }
        check.due("all strings", 1093, x.look(6));
        x.drop(3);
        check.due("none without an end", 0, x.strings(6));
        x.rule(4, right(2));
        check.due("those that end with 2", 243, x.strings(6));
        x.rule(4, right(2));
        check.due("each counted once", 243, x.strings(6));
        check.due("none empty", 0, x.strings(0));
        for (int length : new int[] {-1, 7, 8, 0x7FFFFFFF, 0x80000000}) {
            check.dueThrow("strings(" + length + ")", Check.ARGUMENT, () -> x.strings(length));
            check.dueThrow("ambiguous(" + length + ")", Check.ARGUMENT, () -> x.ambiguous(length));
        }
    }

    private void ambiguousFinds() {
        TreeCount x = with(rule(4, 4, 5), rule(4, 5, 4), rule(4, 1), rule(5, 3), rule(5, 2));
        check.due("none of one letter", -1, x.ambiguous(1));
        check.due("none of two", -1, x.ambiguous(2));
        check.due("of three the least one", string("212"), x.ambiguous(3));
        check.due("and of six", string("212"), x.ambiguous(6));
        x.rule(4, right(3));
        x.rule(4, right(3));
        check.due("one letter", string("3"), x.ambiguous(6));
        check.due("not of none", -1, x.ambiguous(0));
        x.rule(4, 0);
        x.rule(6, 0);
        check.due("another's does not count", -1, x.ambiguous(0));
        x.rule(4, right(6));
        check.due("the empty one", 0, x.ambiguous(0));
        check.due("the empty one of six", 0, x.ambiguous(6));
        TreeCount ring = with(rule(4, 5), rule(5, 4), rule(4, 2, 2, 2, 2));
        check.due("a ring has several", string("2222"), ring.ambiguous(4));
        check.due("a ring, shorter", -1, ring.ambiguous(3));
        TreeCount product = with(rule(4, 5, 5), rule(5, 1), rule(5, 2), rule(5, 2));
        check.due("several of one part", string("12"), product.ambiguous(6));
    }

    private void fromFinds() {
        TreeCount x = with(rule(4, 1, 4), rule(4, 3), rule(4, 2, 2, 2, 4));
        check.due("from nothing", string("3"), x.from(0));
        check.due("from itself", string("3"), x.from(string("3")));
        check.due("from 11", string("13"), x.from(string("11")));
        check.due("from 21, a longer one", string("113"), x.from(string("21")));
        check.due("from 1131", string("2223"), x.from(string("1131")));
        check.due("from 2231", string("11113"), x.from(string("2231")));
        check.due("from 222113, itself", string("222113"), x.from(string("222113")));
        check.due("from 222121", -1, x.from(string("222121")));
        check.due("from seven letters", -1, x.from(string("1111111")));
        check.due("from eight letters", -1, x.from(string("11111113")));
        check.due("order is by the first letter", string("122"),
            with(rule(4, 2, 1, 1), rule(4, 1, 2, 2)).from(string("121")));
        check.due("the empty one", 0, with(rule(4)).from(0));
        check.due("none behind the empty one", -1, with(rule(4)).from(1));
        for (int string : NO_STRINGS) {
            check.dueThrow("from(" + string + ")", Check.ARGUMENT, () -> x.from(string));
            check.dueThrow("begins(" + string + ")", Check.ARGUMENT, () -> x.begins(string) ? 1 : 0);
        }
    }

    private void beginsTells() {
        TreeCount x = with(rule(4, 1, 4, 2), rule(4, 3));
        check.due("nothing", true, x.begins(0));
        check.due("11111111", true, x.begins(0x5555));
        check.due("11111113", true, x.begins(string("11111113")));
        check.due("11113222", true, x.begins(string("11113222")));
        check.due("1132", true, x.begins(string("1132")));
        check.due("11322", true, x.begins(string("11322")));
        check.due("113222", false, x.begins(string("113222")));
        check.due("2", false, x.begins(2));
        x.drop(1);
        check.due("nothing of nothing", false, x.begins(0));
        check.due("1 of nothing", false, x.begins(1));
        x.rule(4, right(5, 2));
        x.rule(5, right(5));
        x.rule(4, right(3, 6));
        check.due("what behind it has no string", false, x.begins(3));
        x.rule(6, 0);
        check.due("what behind it vanishes", true, x.begins(3));
        check.due("only the empty one", true, with(rule(4)).begins(0));
        check.due("only the empty one, 1", false, with(rule(4)).begins(1));
        TreeCount eight = with(rule(4, 5, 5, 5), rule(5, 1, 2, 3, 1));
        check.due("of twelve the first eight", true, eight.begins(string("12311231")));
        check.due("of twelve not these", false, eight.begins(string("12311232")));
    }

    private void firstTells() {
        TreeCount x = with(rule(4, 5, 6, 2), rule(5, 1), rule(5), rule(6, 3), rule(6), rule(7, 7, 1), rule(8, 1, 7),
            rule(8, 9), rule(10, 5, 6), rule(11, 5, 7), rule(11, 11, 3), rule(11, 2));
        check.due("first(4)", 2 | 4 | 8, x.first(4));
        check.due("first(5)", 1 | 2, x.first(5));
        check.due("first(6)", 1 | 8, x.first(6));
        check.due("first without strings", 0, x.first(7));
        check.due("first before what has no strings", 0, x.first(8));
        check.due("first without rules", 0, x.first(9));
        check.due("first of what vanishes in parts", 1 | 2 | 8, x.first(10));
        check.due("first of its own left", 4, x.first(11));
        for (int symbol : NO_NONTERMINALS) {
            check.dueThrow("first(" + symbol + ")", Check.ARGUMENT, () -> x.first(symbol));
            check.dueThrow("follow(" + symbol + ")", Check.ARGUMENT, () -> x.follow(symbol));
        }
    }

    private void followTells() {
        TreeCount x = with(rule(4, 5, 6, 1), rule(5, 7), rule(6), rule(6, 2, 8), rule(6, 3, 6), rule(9, 5, 3),
            rule(4, 7, 10), rule(10, 11));
        check.due("the start", 1, x.follow(4));
        check.due("what stands behind, through what vanishes", 2 | 4 | 8, x.follow(5));
        check.due("what its left side has", 2, x.follow(6));
        check.due("what its left side has, at the end too, not behind 9", 2 | 4 | 8, x.follow(7));
        check.due("in a rule without strings", 2, x.follow(8));
        check.due("never in a row", 0, x.follow(9));
        check.due("at the end", 1, x.follow(10));
        check.due("at the end, by another", 1, x.follow(11));
        x.rule(11, 0);
        check.due("now at the end", 1 | 2 | 4 | 8, x.follow(7));
        TreeCount start = with(rule(4, 4, 4, 3), rule(4));
        check.due("the start in rows of its own", 1 | 8, start.follow(4));
        TreeCount noString = with(rule(4, 5, 6), rule(6, 2, 6));
        check.due("a row that ends in no string", 4, noString.follow(5));
        check.due("at the end of no string", 1, noString.follow(6));
    }

    private void lookTells() {
        TreeCount x = with(rule(4, 5, 6), rule(5, 1), rule(6), rule(6, 7), rule(7, 7), rule(8, 9), rule(9, 8, 1),
            rule(9, 2), rule(4, 10, 4), rule(10, 6, 6));
        check.due("look(0)", 10, x.look(0));
        check.due("look(1)", bits(4, 5, 6, 8, 9, 10), x.look(1));
        check.due("look(2)", bits(6, 10), x.look(2));
        check.due("look(3)", bits(4, 5, 6, 7, 10), x.look(3));
        check.due("look(4)", bits(4, 7, 8, 9), x.look(4));
        check.due("look(5)", 5, x.look(5));
        check.due("look(6)", 1, x.look(6));
        x.rule(6, right(6, 2, 11));
        check.due("look(3) with 11", bits(4, 5, 6, 7, 10, 11), x.look(3));
        check.due("look(4) with what has no strings", bits(4, 6, 7, 8, 9), x.look(4));
        check.due("look(5) with what has no strings", 5, x.look(5));
        x.rule(11, right(3));
        check.due("look(1) with 11", bits(4, 5, 6, 8, 9, 10, 11), x.look(1));
        check.due("look(5) with 11", 7, x.look(5));
        check.due("the start without strings has no rule of use", 0, with(rule(4, 5, 6), rule(5, 1)).look(5));
        check.due("a row of letters before it", bits(5), with(rule(5, 1, 2, 3, 5)).look(4));
        for (int what : new int[] {-1, 7, 8, 100, 0x7FFFFFFF, 0x80000000}) {
            check.dueThrow("look(" + what + ")", Check.ARGUMENT, () -> x.look(what));
        }
    }

    private void objectsApart() {
        TreeCount one = with(rule(4, 1));
        TreeCount other = with(rule(4, 2));
        check.due("one has its own", 1, one.trees(4, 1));
        check.due("the other too", 0, other.trees(4, 1));
        check.due("one's strings", 1, one.from(0));
        check.due("the other's", 2, other.from(0));
    }

    /** The calls that README.md shows, with the answers that stand there. */
    private void readmeExample() {
        TreeCount x = new TreeCount();
        check.due("README: rule(4, 0x414)", 1, x.rule(4, 0x414));
        check.due("README: rule(4, 2)", 2, x.rule(4, 2));
        check.due("README: 614 is 21212", string("21212"), 614);
        check.due("README: trees(4, 614)", 2, x.trees(4, 614));
        check.due("README: sized(614, 5)", 2, x.sized(614, 5));
        check.due("README: least(614)", 5, x.least(614));
        check.due("README: strings(5)", 1, x.strings(5));
        check.due("README: ambiguous(6)", 614, x.ambiguous(6));
        check.due("README: from(3)", 38, x.from(3));
        check.due("README: begins(6)", true, x.begins(6));
        check.due("README: first(4)", 4, x.first(4));
        check.due("README: follow(4)", 3, x.follow(4));
        check.due("README: look(5)", 2, x.look(5));
        check.due("README: rule(4, 4)", 3, x.rule(4, 4));
        check.due("README: trees(4, 2)", -1, x.trees(4, 2));
        check.due("README: drop(2)", 2, x.drop(2));
        check.due("README: trees(4, 2) behind it", 1, x.trees(4, 2));
        check.dueThrow("README: rule(3, 1)", Check.ARGUMENT, () -> x.rule(3, 1));
    }
}
