/** The bounds of promises 11 to 13: first, follow and look, each sentence by itself. */
public final class SymbolBoundsTest extends Cases {
    public static void main(String[] args) {
        SymbolBoundsTest test = new SymbolBoundsTest();
        test.firstLetters();
        test.firstOfStrings();
        test.firstEmpty();
        test.noSuchNonterminalOfFirst();
        test.followLetters();
        test.followOfRows();
        test.followAtEnd();
        test.followOfStartAlone();
        test.noSuchNonterminalOfFollow();
        test.lookRules();
        test.lookDerivesAny();
        test.lookDerivesEmpty();
        test.lookInRow();
        test.lookSameAgain();
        test.lookOfUse();
        test.lookStrings();
        test.anotherWhat();
        test.check.finish();
    }

    private void firstLetters() {
        check.sentence("Promise 11", "with which strings derived from a nonterminal can begin, as bits 1, 2, 3");
        for (int letter = 1; letter <= 3; letter++) {
            check.due("letter " + letter, bits(letter), grammar("4>" + letter).first(4));
            check.due("letter " + letter + " of 11", bits(letter), grammar("b>" + letter + "123").first(11));
        }
        check.due("all of them", bits(1, 2, 3), grammar("4>1 4>21 4>321").first(4));
        check.due("not the second letter", bits(1), grammar("4>123").first(4));
        check.due("through all nonterminals", bits(3), grammar(CHAIN + " b>3").first(4));
        check.due("through all nonterminals, upwards", bits(3), grammar("b>3 " + CHAIN_UPWARDS).first(4));
        check.due("the fourth of a right side", bits(0, 1, 2, 3), grammar("4>5567 5> 6> 6>1 7>2 7>3 7>").first(4));
        check.due("behind three that can vanish", bits(1, 2), grammar("4>5552 5> 5>1").first(4));
        check.due("not behind a letter", bits(1, 2), grammar("4>5253 5> 5>1").first(4));
        check.due("not behind one that can't vanish", bits(1), grammar("4>52 5>1").first(4));
        check.due("a left side at its own beginning", bits(2), grammar("4>43 4>2").first(4));
        check.due("a left side that vanishes at its own beginning", bits(0, 3), grammar("4>43 4>").first(4));
    }

    private void firstOfStrings() {
        check.sentence("Promise 11", "strings derived from a nonterminal");
        check.due("no rules", 0, new TreeCount().first(4));
        check.due("a row without a string", 0, grammar("4>1b").first(4));
        check.due("a row without an end", 0, grammar("4>14").first(4));
        check.due("a row without a string beside another", bits(2), grammar("4>1b 4>2").first(4));
        check.due("a row behind one that vanishes, without a string", 0, grammar("4>51b 5>").first(4));
        check.due("any nonterminal, not in a row of the start, either", bits(1), grammar("4>2 5>1").first(5));
        TreeCount x = grammar("4>1b b>2");
        check.due("before a drop", bits(1), x.first(4));
        x.drop(1);
        check.due("behind a drop", 0, x.first(4));
    }

    private void firstEmpty() {
        check.sentence("Promise 11", "bit 0, if the empty one is derived from it");
        check.due("the empty one alone", bits(0), grammar("4>").first(4));
        check.due("the empty one of 11", bits(0), grammar("b>").first(11));
        check.due("the empty one by four", bits(0), grammar("4>5555 5>").first(4));
        check.due("the empty one but for one of four", bits(1), grammar("4>5551 5>").first(4));
        check.due("the empty one through all", bits(0), grammar(CHAIN + " b>").first(4));
        check.due("the empty one through all, upwards", bits(0), grammar("b> " + CHAIN_UPWARDS).first(4));
        check.due("one without a string beside", 0, grammar("4>5b 5>").first(4));
        check.due("and a letter", bits(0, 2), grammar("4>5 5> 5>2").first(4));
        check.due("a ring alone", 0, grammar("4>4").first(4));
    }

    private void noSuchNonterminalOfFirst() {
        check.sentence("Promise 11", "IllegalArgumentException when there is no such nonterminal");
        TreeCount x = grammar("4>1 b>");
        for (int symbol : NO_NONTERMINALS) {
            check.dueThrow("first(" + symbol + ")", Check.ARGUMENT, () -> x.first(symbol));
        }
        check.due("first(4)", bits(1), x.first(4));
        check.due("first(11)", bits(0), x.first(11));
    }

    private void followLetters() {
        check.sentence("Promise 12", "The letters that can stand right behind a nonterminal in rows");
        for (int letter = 1; letter <= 3; letter++) {
            check.due("letter " + letter, bits(letter), grammar("4>5" + letter).follow(5));
            check.due("letter " + letter + " behind 11", bits(letter), grammar("4>b" + letter + "23").follow(11));
        }
        check.due("the fourth of a right side", bits(0, 3), grammar("4>5663 6> 4>5").follow(5));
        check.due("right behind alone", bits(1), grammar("4>512").follow(5));
        check.due("not ahead", bits(0), grammar("4>125").follow(5));
        check.due("what begins the next one", bits(1, 2), grammar("4>56 6>1 6>2").follow(5));
        TreeCount far = grammar("4>45 4>6 5>6 6>7 7>8 8>9 9>a a>b b>3");
        check.due("what begins the next one through all", bits(0, 3), far.follow(4));
        check.due("the same one twice", bits(0, 1), grammar("4>55 5>1").follow(5));
        check.due("behind its left side", bits(2), grammar("4>52 5>16").follow(6));
        check.due("behind its left side, far up", bits(3), grammar("4>53 5>6 6>7 7>8 8>9 9>a a>b").follow(11));
        check.due("behind its left side, upwards", bits(3), grammar("a>b 9>a 8>9 7>8 6>7 5>6 4>53").follow(11));
        check.due("behind its left side twice in a rule", bits(0, 2), grammar("5>66 4>5 6>2 6>").follow(6));
    }

    private void followOfRows() {
        check.sentence("Promise 12", "rows that come of the start by putting right sides for left sides");
        check.due("never in one", 0, grammar("4>1 5>62").follow(6));
        check.due("never in one, by itself", 0, grammar("4>1 5>51").follow(5));
        check.due("in one that never becomes a string", bits(2), grammar("4>52b").follow(5));
        check.due("before what never becomes a string", bits(3), grammar("4>5b b>3b").follow(5));
        check.due("without a rule of its own", bits(1), grammar("4>b1").follow(11));
        check.due("in a row of one in a row", bits(3), grammar("4>5 5>6 6>73").follow(7));
        TreeCount x = grammar("4>5 5>61");
        check.due("before a drop", bits(1), x.follow(6));
        x.drop(0);
        check.due("behind a drop", 0, x.follow(6));
    }

    private void followAtEnd() {
        check.sentence("Promise 12", "bit 0, if it can stand at the end of one");
        check.due("the last of four", bits(0), grammar("4>1235").follow(5));
        check.due("the third of four", bits(1), grammar("4>1251").follow(5));
        check.due("before what can vanish", bits(0, 1), grammar("4>56 6> 6>1").follow(5));
        check.due("before what can't vanish", bits(1), grammar("4>56 6>1").follow(5));
        check.due("before three that can vanish", bits(0), grammar("4>5666 6>").follow(5));
        check.due("before one without rules", 0, grammar("4>56").follow(5));
        check.due("the last through all", bits(0), grammar(CHAIN).follow(11));
        check.due("the last through all, upwards", bits(0), grammar(CHAIN_UPWARDS).follow(11));
        check.due("the last of one that never is", bits(2), grammar("4>52 5>6").follow(6));
        check.due("the last of one that never is in a row", 0, grammar("4>1 5>6").follow(6));
    }

    private void followOfStartAlone() {
        check.sentence("Promise 12", "(the start alone is one, too)");
        check.due("no rules", bits(0), new TreeCount().follow(4));
        check.due("no rules of its own", bits(0), grammar("5>41").follow(4));
        check.due("before a letter, too", bits(0, 2), grammar("4>42").follow(4));
        for (int a = 5; a <= 11; a++) {
            check.due(a + " is not the start", 0, new TreeCount().follow(a));
        }
    }

    private void noSuchNonterminalOfFollow() {
        check.sentence("Promise 12", "IllegalArgumentException when there is no such nonterminal");
        TreeCount x = grammar("4>b1");
        for (int symbol : NO_NONTERMINALS) {
            check.dueThrow("follow(" + symbol + ")", Check.ARGUMENT, () -> x.follow(symbol));
        }
        check.due("follow(4)", bits(0), x.follow(4));
        check.due("follow(11)", bits(1), x.follow(11));
    }

    private void lookRules() {
        check.sentence("Promise 13", "0 rules");
        TreeCount x = new TreeCount();
        check.due("none", 0, x.look(0));
        for (int n = 1; n <= 24; n++) {
            x.rule(11, 11);
            check.due("rules", n, x.look(0));
        }
        x.drop(23);
        check.due("behind a drop", 23, x.look(0));
    }

    private void lookDerivesAny() {
        check.sentence("Promise 13", "1 that derive any string");
        check.due("none", 0, new TreeCount().look(1));
        check.due("the lowest and the highest", bits(4, 11), grammar("4>1 b>").look(1));
        check.due("through all", bits(4, 5, 6, 7, 8, 9, 10, 11), grammar(CHAIN + " b>1").look(1));
        check.due("through all, upwards", bits(4, 5, 6, 7, 8, 9, 10, 11), grammar("b>1 " + CHAIN_UPWARDS).look(1));
        check.due("through all, without an end", 0, grammar(CHAIN).look(1));
        check.due("one without a string beside", bits(5), grammar("4>5b 5>1").look(1));
        check.due("one that is never in a row", bits(5), grammar("5>3").look(1));
        check.due("strings of more letters than can be told", bits(4, 5, 6), grammar("4>5555 5>6666 6>1111").look(1));
        check.due("a ring alone", 0, grammar("4>4 5>15").look(1));
    }

    private void lookDerivesEmpty() {
        check.sentence("Promise 13", "2 that derive the empty one");
        check.due("none", 0, new TreeCount().look(2));
        check.due("the lowest and the highest", bits(4, 11), grammar("4> b> 5>1").look(2));
        check.due("through all", bits(4, 5, 6, 7, 8, 9, 10, 11), grammar(CHAIN + " b>").look(2));
        check.due("through all, upwards", bits(4, 5, 6, 7, 8, 9, 10, 11), grammar("b> " + CHAIN_UPWARDS).look(2));
        check.due("four", bits(4, 5), grammar("4>5555 5>").look(2));
        check.due("four but for a letter", bits(5), grammar("4>5553 5>").look(2));
        check.due("four but for one that never does", bits(5), grammar("4>5556 5> 6>1").look(2));
        check.due("a ring alone", 0, grammar("4>4").look(2));
    }

    private void lookInRow() {
        check.sentence("Promise 13", "3 that can be in a row that comes of the start");
        check.due("no rules: the start alone is a row, too", bits(4), new TreeCount().look(3));
        check.due("the start without rules", bits(4), grammar("5>6").look(3));
        check.due("the highest", bits(4, 11), grammar("4>123b").look(3));
        check.due("through all", bits(4, 5, 6, 7, 8, 9, 10, 11), grammar(CHAIN).look(3));
        check.due("through all, upwards", bits(4, 5, 6, 7, 8, 9, 10, 11), grammar(CHAIN_UPWARDS).look(3));
        check.due("beside what has no string", bits(4, 5, 6, 7), grammar("4>56 5>7").look(3));
        check.due("not what the start can't come to", bits(4, 5), grammar("4>5 6>7").look(3));
    }

    private void lookSameAgain() {
        check.sentence("Promise 13", "a row that has the same one (and others, maybe) can come, by one step or more");
        check.due("no step is none", 0, new TreeCount().look(4));
        check.due("one step to another", 0, grammar("4>5").look(4));
        check.due("one step", bits(4), grammar("4>4").look(4));
        check.due("one step of the highest", bits(11), grammar("b>b").look(4));
        check.due("others beside", bits(4), grammar("4>1542").look(4));
        check.due("at the fourth place", bits(4), grammar("4>1234").look(4));
        check.due("two steps", bits(4, 5), grammar("4>5 5>4").look(4));
        check.due("eight steps", bits(4, 5, 6, 7, 8, 9, 10, 11), grammar(CHAIN + " b>4").look(4));
        check.due("eight steps, upwards", bits(4, 5, 6, 7, 8, 9, 10, 11), grammar("b>4 " + CHAIN_UPWARDS).look(4));
        check.due("a chain of eight", 0, grammar(CHAIN).look(4));
        check.due("above a ring, and below it", bits(6), grammar("4>5 5>6 6>6 6>7 7>8").look(4));
        check.due("in no row of the start", bits(10, 11), grammar("4>1 a>b b>a1").look(4));
        check.due("without strings", bits(4), grammar("4>4b").look(4));
        check.due("the rule without symbols", 0, grammar("4> 4>1").look(4));
    }

    private void lookOfUse() {
        check.sentence("Promise 13", "5 rules of use: those that are in some tree of the start");
        check.due("none", 0, new TreeCount().look(5));
        check.due("one", 1, grammar("4>").look(5));
        check.due("24", 24, grammar(times(24, "4>")).look(5));
        check.due("24 but for the last", 23, grammar(times(23, "4>") + " 5>1").look(5));
        check.due("24 but for the first", 23, grammar("4>5 " + times(23, "4>1")).look(5));
        check.due("in no tree, without a string beside", 1, grammar("4>1 4>5b 5>1").look(5));
        check.due("in no tree, without a way from the start", 1, grammar("4>1 5>1").look(5));
        check.due("in a tree of more letters than can be told", 4, grammar("4>5555 5>6666 6>7777 7>1").look(5));
        check.due("a ring is in a tree", 2, grammar("4>4 4>1").look(5));
        check.due("a ring alone is in none", 0, grammar("4>4").look(5));
        check.due("through all", 8, grammar(CHAIN + " b>1").look(5));
        check.due("through all, upwards", 8, grammar("b>1 " + CHAIN_UPWARDS).look(5));
        check.due("through all, without an end", 0, grammar(CHAIN).look(5));
        check.due("a way from the start by a rule that is in no tree", 2, grammar("4>1 4>5b 5>6 6>1 4>2").look(5));
    }

    private void lookStrings() {
        check.sentence("Promise 13", "6 how many strings of up to 6 letters are derived");
        check.due("none", 0, new TreeCount().look(6));
        check.due("the empty one", 1, grammar("4>").look(6));
        check.due("all", 1093, grammar("4>14 4>24 4>34 4>").look(6));
        check.due("all but the empty one", 1092, grammar("4>14 4>24 4>34 4>1 4>2 4>3").look(6));
        check.due("one of six letters", 1, grammar("4>123b b>321").look(6));
        check.due("one of seven letters", 0, grammar("4>123b b>3213").look(6));
        check.due("each once", 7, grammar("4>44 4>1 4>").look(6));
        TreeCount x = grammar("4>14 4>24 4>");
        check.due("before a drop", 127, x.look(6));
        x.drop(0);
        check.due("behind a drop", 7, x.look(6));
        x.rule(4, right(1, 4));
        check.due("behind a rule", 127, x.look(6));
    }

    private void anotherWhat() {
        check.sentence("Promise 13", "IllegalArgumentException for another what");
        TreeCount x = grammar("4>14 4>");
        for (int what : new int[] {-1, -2, 7, 8, 16, 256, LOWEST, LOWEST + 1, LOWEST + 6, HIGHEST}) {
            check.dueThrow("look(" + what + ")", Check.ARGUMENT, () -> x.look(what));
        }
        int[] due = {2, bits(4), bits(4), bits(4), bits(4), 2, 7};
        for (int what = 0; what <= 6; what++) {
            check.due("look(" + what + ")", due[what], x.look(what));
        }
    }
}
