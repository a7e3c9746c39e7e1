/** The bounds of promises 1 to 3: a new object, rule and drop, each sentence by itself. */
public final class RuleBoundsTest extends Cases {
    public static void main(String[] args) {
        RuleBoundsTest test = new RuleBoundsTest();
        test.newObjectHasNoRules();
        test.ruleTellsHowMany();
        test.leftIsNoNonterminal();
        test.zeroAheadOfSymbol();
        test.symbolAboveEleven();
        test.moreThanFour();
        test.everyRightSide();
        test.thereAreTwentyFour();
        test.dropTellsHowManyAreLeft();
        test.thoseBehindComeLower();
        test.dropOfTheLast();
        test.dropOfNone();
        test.check.finish();
    }

    private void newObjectHasNoRules() {
        check.sentence("Promise 1", "No rules.");
        TreeCount x = new TreeCount();
        int[] looks = {0, 0, 0, bits(4), 0, 0, 0};
        for (int what = 0; what <= 6; what++) {
            check.due("look(" + what + ")", looks[what], x.look(what));
        }
        for (int a = 4; a <= 11; a++) {
            check.due("trees(" + a + ", 0)", 0, x.trees(a, 0));
            check.due("trees(" + a + ", 65535)", 0, x.trees(a, 0xFFFF));
            check.due("first(" + a + ")", 0, x.first(a));
            check.due("follow(" + a + ")", a == 4 ? 1 : 0, x.follow(a));
        }
        for (int length = 0; length <= 6; length++) {
            check.due("strings(" + length + ")", 0, x.strings(length));
            check.due("ambiguous(" + length + ")", -1, x.ambiguous(length));
        }
        for (int string : new int[] {0, 1, 0xFFF, 0xFFFF}) {
            check.due("sized(" + string + ", 0)", 0, x.sized(string, 0));
            check.due("sized(" + string + ", 30)", 0, x.sized(string, 30));
            check.due("least(" + string + ")", 0, x.least(string));
            check.due("from(" + string + ")", -1, x.from(string));
            check.due("begins(" + string + ")", false, x.begins(string));
        }
        check.dueThrow("drop(0)", Check.NO_ELEMENT, () -> x.drop(0));
        check.due("the first rule", 1, x.rule(4, 0));
    }

    private void ruleTellsHowMany() {
        check.sentence("Promise 2", "One rule more: how many there are.");
        TreeCount x = new TreeCount();
        for (int n = 1; n <= 24; n++) {
            check.due("rule " + n, n, x.rule(4 + n % 8, n % 5 == 0 ? 0 : n % 4 + 1));
            check.due("look(0) behind rule " + n, n, x.look(0));
        }
        x.drop(5);
        x.drop(5);
        check.due("rule behind two drops", 23, x.rule(4, 0));
    }

    private void leftIsNoNonterminal() {
        check.sentence("Promise 2", "IllegalArgumentException when left is no nonterminal");
        TreeCount x = grammar("4>1");
        for (int left : NO_NONTERMINALS) {
            check.dueThrow("left " + left, Check.ARGUMENT, () -> x.rule(left, 1));
            check.dueThrow("left " + left + " with no symbol", Check.ARGUMENT, () -> x.rule(left, 0));
        }
        for (int left = -40; left <= 300; left++) {
            if (left < 4 || left > 11) {
                int wrong = left;
                check.dueThrow("left " + left, Check.ARGUMENT, () -> x.rule(wrong, 1));
            }
        }
        check.due("behind the refusals", 1, x.look(0));
        check.due("the lowest one", 2, x.rule(4, 1));
        check.due("the highest one", 3, x.rule(11, 1));
    }

    private void zeroAheadOfSymbol() {
        check.sentence("Promise 2", "right is none as told (a 0 ahead of a symbol");
        TreeCount x = grammar("4>1");
        int[] wrong = {0x10, 0xB0, 0x100, 0x110, 0x101, 0x1000, 0x1001, 0x1010, 0x1011, 0x1100, 0x1101, 0x1110, 0xB0BB};
        for (int right : wrong) {
            check.dueThrow("right " + Integer.toHexString(right), Check.ARGUMENT, () -> x.rule(4, right));
        }
        check.due("behind the refusals", 1, x.look(0));
        check.due("no 0 ahead", 2, x.rule(4, 0x1111));
        check.due("no symbol at all", 3, x.rule(4, 0));
    }

    private void symbolAboveEleven() {
        check.sentence("Promise 2", "a symbol above 11");
        TreeCount x = grammar("4>1");
        for (int place = 0; place < 4; place++) {
            int before = 0x1111 & ((1 << (4 * place)) - 1);
            for (int symbol = 12; symbol <= 15; symbol++) {
                int right = before | symbol << (4 * place);
                check.dueThrow("right " + Integer.toHexString(right), Check.ARGUMENT, () -> x.rule(4, right));
            }
            check.due("11 at place " + place, 2 + place, x.rule(4, before | 11 << (4 * place)));
        }
        for (int right : new int[] {0xC111, 0x1C11, 0x11C1, 0x111C, 0xFFFF}) {
            check.dueThrow("right " + Integer.toHexString(right), Check.ARGUMENT, () -> x.rule(4, right));
        }
        check.due("behind the refusals", 5, x.look(0));
    }

    private void moreThanFour() {
        check.sentence("Promise 2", "more than four)");
        TreeCount x = grammar("4>1");
        int[] wrong = {0x10000, 0x11111, 0x1BBBB, 0xB1111, 0x111111, 0x1111111, 0x11111111, 0x71111111, HIGHEST, -1, -2,
            LOWEST, LOWEST + 1, LOWEST + 0x1111, -0x1111, 0xFFFF1111, 0xFFFF0000};
        for (int right : wrong) {
            check.dueThrow("right " + Integer.toHexString(right), Check.ARGUMENT, () -> x.rule(4, right));
        }
        for (int bit = 16; bit < 32; bit++) {
            int right = 0x1111 | 1 << bit;
            check.dueThrow("right " + Integer.toHexString(right), Check.ARGUMENT, () -> x.rule(4, right));
        }
        check.due("behind the refusals", 1, x.look(0));
        check.due("just four", 2, x.rule(4, 0xBBBB));
    }

    /** All numbers of up to seventeen bits, told by their written form; each object stays below 512 calls. */
    private void everyRightSide() {
        check.sentence("Promise 2", "right is none as told");
        TreeCount x = new TreeCount();
        for (int right = 0; right < 0x20000; right++) {
            if (right % 200 == 0) {
                x = new TreeCount();
            }
            TreeCount one = x;
            int number = right;
            if (right == 0 || Integer.toHexString(right).matches("[1-9ab]{1,4}")) {
                check.due("right " + right, 1, one.rule(11, right));
                check.due("drop of right " + right, 0, one.drop(0));
            } else {
                check.dueThrow("right " + right, Check.ARGUMENT, () -> one.rule(11, number));
            }
        }
    }

    private void thereAreTwentyFour() {
        check.sentence("Promise 2", "IllegalStateException when there are 24.");
        TreeCount x = grammar(times(12, "4>1") + " " + times(11, "5>2"));
        check.due("with 23", 24, x.rule(11, 0));
        for (int n = 0; n < 3; n++) {
            check.dueThrow("with 24", Check.STATE, () -> x.rule(4, 0));
            check.dueThrow("with 24, the longest", Check.STATE, () -> x.rule(11, 0xBBBB));
        }
        check.due("24 behind the refusals", 24, x.look(0));
        check.due("no string is new", 0, x.trees(4, 0));
        check.due("one goes", 23, x.drop(0));
        check.due("one comes", 24, x.rule(4, 0));
        check.due("and is there", 1, x.trees(4, 0));
        check.dueThrow("with 24 again", Check.STATE, () -> x.rule(4, 0));
        check.sentence("Terms", "Of several exceptions that hold the one listed first is thrown");
        check.dueThrow("a wrong left with 24", Check.ARGUMENT, () -> x.rule(3, 1));
        check.dueThrow("a left of 12 with 24", Check.ARGUMENT, () -> x.rule(12, 1));
        check.dueThrow("a right with a 0 ahead with 24", Check.ARGUMENT, () -> x.rule(4, 0x10));
        check.dueThrow("a right of 12 with 24", Check.ARGUMENT, () -> x.rule(4, 12));
        check.dueThrow("a right of five with 24", Check.ARGUMENT, () -> x.rule(4, 0x11111));
        check.dueThrow("both wrong with 24", Check.ARGUMENT, () -> x.rule(-1, -1));
    }

    private void dropTellsHowManyAreLeft() {
        check.sentence("Promise 3", "how many are left");
        TreeCount x = grammar(times(24, "4>1"));
        for (int left = 23; left >= 0; left--) {
            check.due("drop with " + left + " left", left, x.drop(left / 2));
            check.due("look(0) with " + left + " left", left, x.look(0));
            check.due("trees with " + left + " left", left, x.trees(4, 1));
        }
        check.dueThrow("drop with none left", Check.NO_ELEMENT, () -> x.drop(0));
        check.due("a rule behind them", 1, x.rule(4, 2));
        check.due("and no tree of the former ones", 0, x.trees(4, 1));
    }

    private void thoseBehindComeLower() {
        check.sentence("Promise 3", "Rule i goes; those behind it come a number lower");
        String rules = "4>1 4>12 4>123 4>1231 4>2 4>21 4>213 4>2132";
        String[] rows = {"1", "12", "123", "1231", "2", "21", "213", "2132"};
        for (int i = 0; i < 8; i++) {
            TreeCount x = grammar(rules);
            check.due("drop(" + i + ")", 7, x.drop(i));
            for (int k = 0; k < 8; k++) {
                check.due(rows[k] + " behind drop(" + i + ")", k == i ? 0 : 1, x.trees(4, string(rows[k])));
            }
            int next = i < 7 ? i + 1 : 0;
            check.due("the next one's number", 6, x.drop(i < 7 ? i : 0));
            check.due("the next one is gone, too", 0, x.trees(4, string(rows[next])));
            check.due("the others are not", 6, x.look(6));
        }
        TreeCount full = grammar(times(23, "4>1") + " 5>2");
        full.drop(0);
        check.due("the last one has number 22 now", 22, full.drop(22));
        check.due("and was that of 5", 0, full.trees(5, 2));
        check.due("not one of the others", 22, full.trees(4, 1));
    }

    private void dropOfTheLast() {
        check.sentence("Promise 3", "Rule i goes");
        TreeCount x = grammar("4>4 4>1 4>2");
        check.due("the last of three", 2, x.drop(2));
        check.due("2 is gone", 0, x.trees(4, 2));
        check.due("1 is there", -1, x.trees(4, 1));
        check.due("the last of two", 1, x.drop(1));
        check.due("1 is gone", 0, x.trees(4, 1));
        check.due("4 comes of itself still", bits(4), x.look(4));
        check.due("the last of all", 0, x.drop(0));
        check.due("nothing comes of 4", 0, x.look(4));
        TreeCount full = grammar(times(23, "5>1") + " 4>3");
        check.due("the last of 24", 23, full.drop(23));
        check.due("3 is gone", -1, full.from(0));
        check.due("the others are there", 23, full.trees(5, 1));
    }

    private void dropOfNone() {
        check.sentence("Promise 3", "NoSuchElementException when there is none");
        for (int count = 0; count <= 24; count++) {
            TreeCount x = new TreeCount();
            for (int n = 0; n < count; n++) {
                x.rule(4, 1);
            }
            for (int i : new int[] {-1, count, count + 1, 24, 25, LOWEST, HIGHEST, LOWEST + count, -count - 1}) {
                check.dueThrow("drop(" + i + ") of " + count, Check.NO_ELEMENT, () -> x.drop(i));
            }
            check.due("all are there", count, x.trees(4, 1));
            if (count > 0) {
                check.due("drop of the last of " + count, count - 1, x.drop(count - 1));
                int last = count - 1;
                check.dueThrow("drop of it again", Check.NO_ELEMENT, () -> x.drop(last));
            }
        }
    }
}
