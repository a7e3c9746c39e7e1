/** The bounds of promises 4 to 6: trees, sized and least, each sentence by itself. */
public final class TreeBoundsTest extends Cases {
    /** 5 has 2 empty trees, 6 has 10, 7 has 9, 8 has 11111, 9 has 100000 and a has 10000100001; b has none. */
    private static final String POWERS = "5> 5> 6>555 6>5 7>555 7> 8>6666 8>666 8>66 8>6 8> 9>78 9> a>99 a>9 a>";

    public static void main(String[] args) {
        TreeBoundsTest test = new TreeBoundsTest();
        test.noEndOfTrees();
        test.noEndOfEmptyTrees();
        test.ringsThatAreNone();
        test.noEndBesideMany();
        test.asManyOrMore();
        test.asManyBySplits();
        test.asManyByLetters();
        test.noSuchSymbol();
        test.noSuchStringOfTrees();
        test.sizedCountsLikewise();
        test.sizedHasNoRing();
        test.sizeBounds();
        test.noSuchSize();
        test.leastSize();
        test.leastWithoutTree();
        test.noSuchStringOfLeast();
        test.everyString();
        test.check.finish();
    }

    private void noEndOfTrees() {
        check.sentence("Promise 4", "-1 when there is no end of them");
        check.due("one of one", 1, grammar("4>1").trees(4, 1));
        check.due("itself", -1, grammar("4>4 4>1").trees(4, 1));
        check.due("eight letters and itself", -1, grammar("4>4 4>3333 4>44").trees(4, 0xFFFF));
        check.due("itself, last of 24", -1, grammar(times(23, "4>1") + " 4>4").trees(4, 1));
        String chain = CHAIN + " b>1";
        check.due("all nonterminals in a row", 1, grammar(chain).trees(4, 1));
        TreeCount ring = grammar(chain + " b>4");
        for (int a = 4; a <= 11; a++) {
            check.due("all nonterminals in a ring, from " + a, -1, ring.trees(a, 1));
        }
        check.due("a ring at the row's end", -1, grammar(chain + " b>b").trees(4, 1));
        check.due("all in a row, upwards, and a ring", -1, grammar("b>b b>1 " + CHAIN_UPWARDS).trees(4, 1));
        check.due("a ring, then one tree more", -1, grammar("4>52 4>32 5>5 5>3").trees(4, string("32")));
        check.due("one tree, then a ring", -1, grammar("4>32 4>52 5>5 5>3").trees(4, string("32")));
        check.due("a ring at the first cut", -1, grammar("4>56 5>7 5>11 7>7 7>1 6>2 6>12").trees(4, string("112")));
        check.due("a ring at the last cut", -1, grammar("4>56 5>1 5>7 7>7 7>11 6>2 6>12").trees(4, string("112")));
        check.due("a ring of the shorter of two parts", -1, grammar("4>4 4>56 5>1 5>12 6>2").trees(4, string("12")));
        TreeCount below = grammar("4>152 5>5 5>3 6>3");
        check.due("a ring in the middle", -1, below.trees(4, string("132")));
        check.due("what has no ring below", 1, below.trees(6, 3));
    }

    private void noEndOfEmptyTrees() {
        check.sentence("Promise 4", "-1 when there is no end of them");
        check.due("the empty string", -1, grammar("4>4 4>").trees(4, 0));
        check.due("the empty string by two", -1, grammar("4>44 4>").trees(4, 0));
        check.due("beside what is empty", -1, grammar("4>5545 4>1 5>").trees(4, 1));
        check.due("the last place", -1, grammar("4>5554 4>1 5>").trees(4, 1));
        check.due("the first place", -1, grammar("4>4555 4>1 5>").trees(4, 1));
        check.due("an empty ring behind", -1, grammar("4>15 5>55 5>").trees(4, 1));
        check.due("an empty ring ahead", -1, grammar("4>51 5>55 5>").trees(4, 1));
        check.due("an empty ring between", -1, grammar("4>151 5>5 5>").trees(4, string("11")));
        check.due("an empty ring through others", -1, grammar("4>1b b>a a>9 a> 9>b").trees(4, 1));
        check.due("with the empty string alone", -1, grammar("4>5 4>1 5>5 5>").trees(4, 0));
        check.due("not with a letter", 1, grammar("4>5 4>1 5>5 5>").trees(4, 1));
    }

    private void ringsThatAreNone() {
        check.sentence("Promise 4", "How many trees a symbol has with a string: -1 when there is no end of them");
        check.due("a ring alone", 0, grammar("4>4").trees(4, 0));
        check.due("a ring, and another string", 0, grammar("4>4 4>1").trees(4, 2));
        check.due("a letter more each time", 1, grammar("4>14 4>1").trees(4, 0x5555));
        check.due("one beside has letters", 1, grammar("4>45 4>1 5>2").trees(4, string("122")));
        check.due("one beside has no tree", 1, grammar("4>45 4>1 5>5").trees(4, 1));
        check.due("one beside has no rule", 1, grammar("4>4b 4>1").trees(4, 1));
        check.due("another's ring", 1, grammar("4>1 5>5 5>1").trees(4, 1));
        check.due("a ring that a letter's lack cuts off", 0, grammar("4>25 5>5 5>1").trees(4, string("11")));
        TreeCount x = grammar("4>4 4>1");
        x.drop(0);
        check.due("a ring that went", 1, x.trees(4, 1));
        add(x, "4>5 5>4");
        check.due("a ring that came", -1, x.trees(4, 1));
    }

    private void noEndBesideMany() {
        check.sentence("Promise 4", "no end of them; 1000000000000000 when there are as many, or more");
        TreeCount x = grammar(POWERS + " 4>aaaa 4>4");
        check.due("many, and a ring", -1, x.trees(4, 0));
        check.due("many below, and no ring", MANY, grammar(POWERS + " 4>aaaa").trees(4, 0));
        x.drop(x.look(0) - 1);
        check.due("the ring went", MANY, x.trees(4, 0));
        add(x, "5>5");
        check.due("a ring below many", -1, x.trees(4, 0));
        check.due("a ring below ten", -1, x.trees(6, 0));
        check.due("none with a letter", 0, x.trees(4, 1));
        check.due("many, then a ring", -1, grammar(POWERS + " 4>1aaa 4>1b b>b b>").trees(4, 1));
        check.due("a ring, then many", -1, grammar(POWERS + " 4>1b 4>1aaa b>b b>").trees(4, 1));
        check.due("many times none", 0, grammar("4>ab a>9999 9>8888 8>7777 7>66 6>5555 5> 5> b>1").trees(4, 0));
        check.due("many times a letter", MANY, grammar("4>ab a>9999 9>8888 8>7777 7>66 6>5555 5> 5> b>1").trees(4, 1));
        check.due("no end times none", 0, grammar("4>5b 5>5 5> b>1").trees(4, 0));
        check.due("no end times one", -1, grammar("4>5b 5>5 5> b>1").trees(4, 1));
    }

    private void asManyOrMore() {
        check.sentence("Promise 4", "1000000000000000 when there are as many, or more");
        TreeCount x = grammar(POWERS);
        check.due("99999 by parts", 99999, grammar(POWERS + " 4>78").trees(4, 0));
        check.due("10000100001 by parts", 10000100001L, x.trees(10, 0));
        add(x, "4>78a");
        check.due("one below", MANY - 1, x.trees(4, 0));
        add(x, "4>");
        check.due("just as many", MANY, x.trees(4, 0));
        add(x, "4>");
        check.due("one above", MANY, x.trees(4, 0));
        x.drop(x.look(0) - 1);
        x.drop(x.look(0) - 1);
        check.due("one below again", MANY - 1, x.trees(4, 0));
        check.due("as many by a product", MANY, grammar(POWERS + " 4>999").trees(4, 0));
        check.due("a tenth of it", MANY / 10, grammar(POWERS + " b>6666 4>99b").trees(4, 0));
        check.due("ten times as many", MANY, grammar(POWERS + " 4>9996").trees(4, 0));
        check.due("far more than a long holds", MANY, grammar(POWERS + " 4>aaaa").trees(4, 0));
        TreeCount most = grammar(times(17, "b>") + " 4>5555 5>6666 6>7777 7>8888 8>9999 9>aaaa a>bbbb");
        check.due("as many as can be", MANY, most.trees(4, 0));
        check.due("17 to the fourth", 83521, most.trees(10, 0));
    }

    private void asManyBySplits() {
        check.sentence("Promise 4", "1000000000000000 when there are as many, or more");
        TreeCount x = grammar(POWERS + " 4>bb b>1666 " + times(5, "b>996"));
        check.due("5 by 10 to the 11th, and 1000, at two places", MANY, x.trees(4, 1));
        check.due("5 by 10 to the 11th, twice", MANY, x.trees(4, 0));
        check.due("1000, twice", 1000000, x.trees(4, string("11")));
        x.drop(x.look(0) - 1);
        check.due("4 by 10 to the 11th, and 1000, at two places", MANY / 10 * 8, x.trees(4, 1));
        add(x, "b>996 b>996");
        check.due("6 by 10 to the 11th, and 1000, at two places", MANY, x.trees(4, 1));
        TreeCount below = grammar(POWERS + " 4>78a 4>1");
        check.due("one of another string is not added", MANY - 1, below.trees(4, 0));
        check.due("nor are these to that one", 1, below.trees(4, 1));
    }

    private void asManyByLetters() {
        check.sentence("Promise 4", "1000000000000000 when there are as many, or more");
        TreeCount x = grammar(POWERS + " 4>178a 4>1");
        check.due("just as many with a letter", MANY, x.trees(4, 1));
        x.drop(x.look(0) - 1);
        check.due("one below with a letter", MANY - 1, x.trees(4, 1));
        check.due("none without it", 0, x.trees(4, 0));
        check.due("none with it twice", 0, x.trees(4, string("11")));
    }

    private void noSuchSymbol() {
        check.sentence("Promise 4", "IllegalArgumentException when there is no such symbol (1 .. 11)");
        TreeCount x = grammar("4>1 b>1");
        for (int symbol : new int[] {-1, 0, 12, 13, 15, 16, 17, 27, 256 + 4, LOWEST, LOWEST + 4, HIGHEST}) {
            check.dueThrow("symbol " + symbol, Check.ARGUMENT, () -> x.trees(symbol, 1));
            check.dueThrow("symbol " + symbol + ", no letter", Check.ARGUMENT, () -> x.trees(symbol, 0));
            check.dueThrow("symbol " + symbol + ", no string", Check.ARGUMENT, () -> x.trees(symbol, 4));
        }
        int[] counts = {0, 1, 0, 0, 1, 0, 0, 0, 0, 0, 0, 1};
        for (int symbol = 1; symbol <= 11; symbol++) {
            check.due("symbol " + symbol, counts[symbol], x.trees(symbol, 1));
        }
    }

    private void noSuchStringOfTrees() {
        check.sentence("Promise 4", "or string (a 0 ahead of a letter, a bit above the sixteenth)");
        TreeCount x = grammar("4>4 4>1");
        for (int string : NO_STRINGS) {
            check.dueThrow("a nonterminal's string " + string, Check.ARGUMENT, () -> x.trees(4, string));
            check.dueThrow("a letter's string " + string, Check.ARGUMENT, () -> x.trees(1, string));
            check.dueThrow("another's string " + string, Check.ARGUMENT, () -> x.trees(11, string));
        }
        for (int bit = 16; bit < 32; bit++) {
            int high = 1 << bit;
            check.dueThrow("bit " + bit + " alone", Check.ARGUMENT, () -> x.trees(4, high));
            check.dueThrow("bit " + bit + " and a letter", Check.ARGUMENT, () -> x.trees(4, high | 1));
            check.dueThrow("bit " + bit + " and eight letters", Check.ARGUMENT, () -> x.trees(4, high | 0x5555));
        }
        check.due("the sixteenth bit", 0, x.trees(4, 0x9555));
        check.due("behind the refusals", -1, x.trees(4, 1));
    }

    private void sizedCountsLikewise() {
        check.sentence("Promise 5", "How many trees of a size the start has with a string, likewise");
        TreeCount x = grammar(times(10, "4>4") + " " + times(9, "4>5") + " 5>5 5>2");
        check.due("9", 9, x.sized(2, 2));
        check.due("a tenth of it but one", MANY / 10 - 1, x.sized(2, 15));
        check.due("one below", MANY - 1, x.sized(2, 16));
        check.due("ten times as many but one", MANY, x.sized(2, 17));
        check.due("far more than a long holds", MANY, x.sized(2, 30));
        check.due("none of another string", 0, x.sized(3, 30));
        TreeCount power = grammar(times(10, "4>4") + " 4>2");
        check.due("a tenth of it", MANY / 10, power.sized(2, 15));
        check.due("just as many", MANY, power.sized(2, 16));
        check.due("ten times as many", MANY, power.sized(2, 17));
        TreeCount most = grammar(times(23, "4>4") + " 4>2");
        check.due("as many as can be", MANY, most.sized(2, 30));
        TreeCount joined = grammar(times(10, "5>5") + " 5>2 " + times(10, "6>6") + " 6>3 4>56");
        check.due("joined, 11 places with 10 to the tenth", 11 * 10000000000L, joined.sized(string("23"), 13));
        check.due("joined, more than many", MANY, joined.sized(string("23"), 18));
        check.due("joined, many times many", MANY, joined.sized(string("23"), 30));
        check.due("joined, none", 0, joined.sized(string("32"), 30));
    }

    private void sizedHasNoRing() {
        check.sentence("Promise 5", "How many trees of a size");
        TreeCount x = grammar("4>4 4>1");
        check.due("no end of them", -1, x.trees(4, 1));
        for (int size = 1; size <= 30; size++) {
            check.due("one of size " + size, 1, x.sized(1, size));
        }
        TreeCount empty = grammar("4>44 4>");
        check.due("no end of empty ones", -1, empty.trees(4, 0));
        check.due("empty ones of size 7", 5, empty.sized(0, 7));
    }

    private void sizeBounds() {
        check.sentence("Promise 5", "the size is not 0 .. 30");
        TreeCount x = grammar("4>14 4> 5>5");
        check.due("size 0", 0, x.sized(0, 0));
        check.due("size 0 with a letter", 0, x.sized(1, 0));
        check.due("size 1", 1, x.sized(0, 1));
        check.due("size 1 with a letter", 0, x.sized(1, 1));
        check.due("size 9", 1, x.sized(0x5555, 9));
        check.due("size 10", 0, x.sized(0x5555, 10));
        check.due("size 8, all in a row", 1, grammar(CHAIN + " b>1").sized(1, 8));
        check.due("size 8, all in a row, upwards", 1, grammar("b>1 " + CHAIN_UPWARDS).sized(1, 8));
        check.due("size 2, two letters behind", 1, grammar("4>512 5>3").sized(string("312"), 2));
        check.due("size 2, three letters behind", 1, grammar("4>5123 5>3").sized(string("3123"), 2));
        check.due("size 2, letters around", 1, grammar("4>1523 5>3").sized(string("1323"), 2));
        check.due("size 3, two before two letters", 1, grammar("4>5512 5>3").sized(string("3312"), 3));
        check.due("size 3, two around two letters", 1, grammar("4>5125 5>3").sized(string("3123"), 3));
        check.due("size 5, four", 1, grammar("4>5555 5>12").sized(string("12121212"), 5));
        TreeCount deep = grammar("4>54 4> 5>5 5>1");
        check.due("size 29", 1, deep.sized(1, 29));
        check.due("size 30", 1, deep.sized(1, 30));
        check.due("size 30 of two letters, 26 places", 26, deep.sized(string("11"), 30));
    }

    private void noSuchSize() {
        check.sentence("Promise 5", "when there is no such string, or the size is not 0 .. 30");
        TreeCount x = grammar("4>4 4>1");
        for (int size : new int[] {-1, -2, 31, 32, 61, 62, 256, LOWEST, LOWEST + 1, HIGHEST}) {
            check.dueThrow("size " + size, Check.ARGUMENT, () -> x.sized(1, size));
            check.dueThrow("size " + size + ", the empty string", Check.ARGUMENT, () -> x.sized(0, size));
            check.dueThrow("size " + size + ", no string", Check.ARGUMENT, () -> x.sized(4, size));
        }
        for (int string : NO_STRINGS) {
            check.dueThrow("string " + string, Check.ARGUMENT, () -> x.sized(string, 1));
            check.dueThrow("string " + string + " of size 0", Check.ARGUMENT, () -> x.sized(string, 0));
            check.dueThrow("string " + string + " of size 30", Check.ARGUMENT, () -> x.sized(string, 30));
        }
        check.due("behind the refusals", 1, x.sized(1, 30));
    }

    private void leastSize() {
        check.sentence("Promise 6", "The least size of the start's trees with a string");
        TreeCount x = grammar("4>5 5>6 6>1 4>7 7>1 4>444 4>4");
        check.due("two before three", 2, x.least(1));
        check.due("of no end of them", 7, x.least(string("111")));
        add(x, "4>1");
        check.due("one before two", 1, x.least(1));
        check.due("by four rules now", 4, x.least(string("111")));
        check.due("just that size", 1, x.sized(string("111"), 4));
        check.due("none below it", 0, x.sized(string("111"), 3));
        check.due("the empty string", 1, grammar("4>44 4>").least(0));
        check.due("another's is less", 3, grammar("4>5 5>6 6>1 7>1").least(1));
        check.due("all nonterminals in a row", 8, grammar(CHAIN + " b>1").least(1));
        check.due("all nonterminals in a row, upwards", 8, grammar("b>1 " + CHAIN_UPWARDS).least(1));
        TreeCount deep = grammar("4>5555 5>6666 6>7777 7>8888 8>9999 9>aaaa a>bbbb b>");
        check.due("above 30", 21845, deep.least(0));
        add(deep, "b>1b");
        check.due("above 30, with eight letters", 21853, deep.least(0x5555));
        TreeCount rings = grammar("4>5 5>6666 6>7777 7>8888 8>9999 9>aaaa a>bbbb b> b>bbbb 4>4 5>5 4>4444 6>6");
        check.due("above 30, with rings at each place", 5462, rings.least(0));
    }

    private void leastWithoutTree() {
        check.sentence("Promise 6", "0 without one");
        check.due("no rules", 0, new TreeCount().least(0));
        check.due("a ring alone", 0, grammar("4>4").least(0));
        check.due("rings of four alone", 0, grammar("4>4444 4>5555 5>4444").least(0));
        check.due("another string", 0, grammar("4>1").least(2));
        check.due("a letter too many", 0, grammar("4>1231").least(string("12312")));
        check.due("a letter too few", 0, grammar("4>1231").least(string("123")));
        check.due("another's tree", 0, grammar("5>1").least(1));
        check.due("one beside without a tree", 0, grammar("4>15 5>5").least(1));
        check.due("not the empty one", 0, grammar("4>1").least(0));
    }

    private void noSuchStringOfLeast() {
        check.sentence("Promise 6", "IllegalArgumentException when there is no such string");
        TreeCount x = grammar("4>1");
        for (int string : NO_STRINGS) {
            check.dueThrow("string " + string, Check.ARGUMENT, () -> x.least(string));
        }
        check.due("behind the refusals", 1, x.least(1));
    }

    /** All numbers of up to seventeen bits, told by their written form; each object stays below 512 calls. */
    private void everyString() {
        check.sentence("Promise 4", "a 0 ahead of a letter, a bit above the sixteenth");
        TreeCount x = null;
        for (int string = 0; string < 0x20000; string++) {
            if (string % 100 == 0) {
                x = grammar("4>14 4>24 4>34 4>");
            }
            String digits = Integer.toString(string, 4);
            if (string == 0 || digits.matches("[123]{1,8}")) {
                everyTree(x, string, string == 0 ? 0 : digits.length());
            } else {
                noTree(x, string);
            }
        }
    }

    private void everyTree(TreeCount x, int string, int length) {
        check.due("trees of " + string, 1, x.trees(4, string));
        check.due("trees of a letter and " + string, string == 3 ? 1 : 0, x.trees(3, string));
        check.due("sized of " + string, 1, x.sized(string, length + 1));
        check.due("least of " + string, length + 1, x.least(string));
    }

    private void noTree(TreeCount x, int string) {
        check.dueThrow("trees of " + string, Check.ARGUMENT, () -> x.trees(4, string));
        check.dueThrow("trees of a letter and " + string, Check.ARGUMENT, () -> x.trees(3, string));
        check.dueThrow("sized of " + string, Check.ARGUMENT, () -> x.sized(string, 1));
        check.dueThrow("least of " + string, Check.ARGUMENT, () -> x.least(string));
    }
}
