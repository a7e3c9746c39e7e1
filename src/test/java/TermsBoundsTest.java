/** The bounds that the document names under 'What it is' and 'Terms', each sentence by itself. */
public final class TermsBoundsTest extends Cases {
    public static void main(String[] args) {
        TermsBoundsTest test = new TermsBoundsTest();
        test.lettersAndNonterminals();
        test.startIsFour();
        test.rightSideLengths();
        test.rulesNumbered();
        test.rulesAtMost();
        test.sameRuleSeveralTimes();
        test.rightSideAsNumber();
        test.treeOfLetter();
        test.treeOfNonterminal();
        test.stringOfTree();
        test.sizeOfTree();
        test.treesDiffer();
        test.stringAsNumber();
        test.stringLengths();
        test.shorterIsLess();
        test.lesserLetterIsLess();
        test.derivedFromStart();
        test.check.finish();
    }

    private void lettersAndNonterminals() {
        check.sentence("Terms", "LETTERS 1, 2, 3 and NONTERMINALS 4 .. 11");
        TreeCount x = grammar("4>1 4>2 4>3 4>b b>4");
        for (int letter = 1; letter <= 3; letter++) {
            check.due("letter " + letter, 1, x.trees(letter, letter));
            check.dueThrow("letter " + letter + " as a left side", Check.ARGUMENT, throwing(x, letter));
        }
        for (int a = 4; a <= 11; a++) {
            check.due("nonterminal " + a + " as a left side", 1, new TreeCount().rule(a, 1));
            check.due("nonterminal " + a + " in a right side", 1, new TreeCount().rule(4, a));
        }
        check.dueThrow("12 as a left side", Check.ARGUMENT, throwing(x, 12));
        check.dueThrow("12 in a right side", Check.ARGUMENT, () -> x.rule(4, 12));
    }

    private static Check.Call throwing(TreeCount x, int left) {
        return () -> x.rule(left, 1);
    }

    private void startIsFour() {
        check.sentence("Terms", "of which 4 is the START");
        for (int a = 4; a <= 11; a++) {
            TreeCount x = new TreeCount();
            x.rule(a, 1);
            int own = a == 4 ? 1 : 0;
            check.due("strings of " + a, own, x.strings(1));
            check.due("sized of " + a, own, x.sized(1, 1));
            check.due("least of " + a, own, x.least(1));
            check.due("begins of " + a, own == 1, x.begins(1));
            check.due("from of " + a, own == 1 ? 1 : -1, x.from(0));
            check.due("use of " + a, own, x.look(5));
        }
    }

    private void rightSideLengths() {
        check.sentence("Terms", "a row of 0 to 4 symbols (its right side)");
        String[] rows = {"", "1", "12", "123", "1231"};
        for (String row : rows) {
            TreeCount x = grammar("4>" + row);
            check.due("a row of " + row.length(), 1, x.trees(4, string(row)));
            check.due("a row of " + row.length() + " has this string alone", 1, x.look(6));
            check.due("the strings as long as a row of " + row.length(), 1, x.strings(row.length()));
        }
        TreeCount x = grammar("4>b b>bbbb b>1");
        check.due("four nonterminals", 1, x.trees(4, string("1111")));
        check.due("not three of them", 0, x.trees(4, string("111")));
        check.dueThrow("five symbols", Check.ARGUMENT, () -> x.rule(4, 0x11111));
    }

    private void rulesNumbered() {
        check.sentence("Terms", "rules are numbered as they came");
        TreeCount x = grammar("4>1 4>2 4>3 4>11 4>22");
        check.due("drop(0)", 4, x.drop(0));
        check.due("first came first", 0, x.trees(4, 1));
        check.due("drop(3)", 3, x.drop(3));
        check.due("last came last", 0, x.trees(4, string("22")));
        x.rule(4, right(3, 3));
        check.due("drop(2)", 3, x.drop(2));
        check.due("11 was the third", 0, x.trees(4, string("11")));
        check.due("33 came behind it", 1, x.trees(4, string("33")));
        check.due("2 and 3 came before it", 2, x.strings(1));
    }

    private void rulesAtMost() {
        check.sentence("Terms", "24 at most");
        TreeCount x = grammar(times(23, "4>1"));
        check.due("23", 23, x.trees(4, 1));
        check.due("rule 24", 24, x.rule(4, 1));
        check.due("24", 24, x.trees(4, 1));
        check.due("24 of size 1", 24, x.sized(1, 1));
        check.due("24 of use", 24, x.look(5));
        check.dueThrow("rule 25", Check.STATE, () -> x.rule(4, 1));
        check.due("24 still", 24, x.trees(4, 1));
        TreeCount last = grammar(times(23, "b>b") + " 4>3213");
        check.due("the last of 24 is one like others", string("3213"), last.from(0));
        check.due("the last of 24 has trees", 1, last.trees(4, string("3213")));
        check.due("the last of 24 has sizes", 1, last.sized(string("3213"), 1));
        check.due("the last of 24 has a least size", 1, last.least(string("3213")));
        check.due("the last of 24 begins", true, last.begins(string("321")));
        check.due("the last of 24 has a first letter", bits(3), last.first(4));
        check.due("the last of 24 is of use", 1, last.look(5));
    }

    private void sameRuleSeveralTimes() {
        check.sentence("Terms", "the same one may be there several times (each is a rule of its own)");
        TreeCount x = grammar("4>1");
        check.due("once", -1, x.ambiguous(6));
        check.due("again", 2, x.rule(4, 1));
        check.due("trees of two", 2, x.trees(4, 1));
        check.due("sized of two", 2, x.sized(1, 1));
        check.due("least of two", 1, x.least(1));
        check.due("ambiguous with two", 1, x.ambiguous(1));
        check.due("strings of two", 1, x.strings(1));
        check.due("use of two", 2, x.look(5));
        check.due("drop one", 1, x.drop(0));
        check.due("the other is left", 1, x.trees(4, 1));
        TreeCount empty = grammar("4> 4> 4>");
        check.due("three empty ones", 3, empty.trees(4, 0));
    }

    private void rightSideAsNumber() {
        check.sentence("Terms", "16 times the second one, 256 times the third, 4096 times the fourth");
        TreeCount x = new TreeCount();
        x.rule(4, 3 + 16 * 2 + 256 + 4096 * 2);
        check.due("3212", 1, x.trees(4, string("3212")));
        check.due("2123, the other way round", 0, x.trees(4, string("2123")));
        x.rule(4, 0xBBBB);
        check.due("the greatest one", 2, x.look(0));
        check.due("11 in it", bits(4, 11), x.look(3));
        check.sentence("Terms", "(0s behind its end)");
        x.rule(4, 0);
        check.due("the empty one", 1, x.trees(4, 0));
        x.rule(4, 0x0001);
        check.due("0s behind the first", 1, x.trees(4, string("1")));
        x.rule(4, 0x0021);
        check.due("0s behind the second", 1, x.trees(4, string("12")));
        x.rule(4, 0x0321);
        check.due("a 0 behind the third", 1, x.trees(4, string("123")));
    }

    private void treeOfLetter() {
        check.sentence("Terms", "A TREE of a symbol: a letter, the letter alone");
        TreeCount x = grammar("4>1 4>2 4>3");
        for (int letter = 1; letter <= 3; letter++) {
            for (int other = 1; other <= 3; other++) {
                check.due(letter + " with " + other, letter == other ? 1 : 0, x.trees(letter, other));
            }
            check.due(letter + " with the empty string", 0, x.trees(letter, 0));
            check.due(letter + " with itself twice", 0, x.trees(letter, letter + 4 * letter));
            check.due(letter + " with itself eight times", 0, x.trees(letter, letter * 0x5555));
            check.due(letter + " without rules", 1, new TreeCount().trees(letter, letter));
        }
    }

    private void treeOfNonterminal() {
        check.sentence("Terms", "a nonterminal, a rule that has it as its left side, and a tree of each symbol");
        TreeCount x = grammar("4>5678 5>1 6>2 7> 8>3");
        check.due("each symbol has one", 1, x.trees(4, string("123")));
        x.drop(3);
        check.due("one symbol has none", 0, x.trees(4, string("123")));
        check.due("nor has it without that symbol", 0, x.look(6));
        check.due("a nonterminal without rules", 0, x.trees(7, 0));
        TreeCount empty = grammar("b>");
        check.due("the rule without symbols", 1, empty.trees(11, 0));
        check.due("another left side", 0, empty.trees(10, 0));
    }

    private void stringOfTree() {
        check.sentence("Terms", "Its STRING: the letters, from left to right");
        TreeCount flat = grammar("4>5263 5>12 6>31");
        TreeCount deep = grammar("4>53 5>61 6>73 7>82 8>12");
        for (TreeCount x : new TreeCount[] {flat, deep}) {
            check.due("trees of 122313", 1, x.trees(4, string("122313")));
            check.due("trees of it backwards", 0, x.trees(4, string("313221")));
            check.due("trees of its halves, changed", 0, x.trees(4, string("313122")));
            check.due("the only one", string("122313"), x.from(0));
            check.due("none of the others", 1, x.look(6));
            check.due("begins with 122", true, x.begins(string("122")));
            check.due("does not begin with 313", false, x.begins(string("313")));
            check.due("first letter", bits(1), x.first(4));
        }
        check.due("size of two below", 3, flat.least(string("122313")));
        check.due("size of four below", 5, deep.least(string("122313")));
    }

    private void sizeOfTree() {
        check.sentence("Terms", "its SIZE: how many rules it has (each as often as it is there)");
        TreeCount x = grammar("4>555 5>1 5>");
        check.due("one rule thrice, and another", 4, x.least(string("111")));
        check.due("sized by 4", 1, x.sized(string("111"), 4));
        check.due("not by 2", 0, x.sized(string("111"), 2));
        check.due("the empty string has rules, too", 4, x.least(0));
        TreeCount letters = grammar("4>1231");
        check.due("letters are no rules", 1, letters.least(string("1231")));
    }

    private void treesDiffer() {
        check.sentence("Terms", "Two trees are different if they differ anywhere");
        TreeCount x = grammar("4>55 5>1 5>11");
        check.due("by where they are cut", 2, x.trees(4, string("111")));
        TreeCount deep = grammar("4>5 5>6 6>7 7>8 8>1 8>1");
        check.due("by the lowest rule alone", 2, deep.trees(4, 1));
        TreeCount side = grammar("4>565 5> 5> 6>1");
        check.due("by rules of empty parts", 4, side.trees(4, 1));
        TreeCount middle = grammar("4>5 4>6 5>1 6>1");
        check.due("by the nonterminal between", 2, middle.trees(4, 1));
    }

    private void stringAsNumber() {
        check.sentence("Terms", "its first letter, 4 times the second one, 16 times the third, and so on");
        TreeCount x = grammar("4>5678 5>12 6>31 7>22 8>13");
        int number = 1 + 4 * 2 + 16 * 3 + 64 + 256 * 2 + 1024 * 2 + 4096 + 16384 * 3;
        check.due("12312213", 1, x.trees(4, number));
        check.due("12312213 is written so", string("12312213"), number);
        TreeCount two = grammar("4>12");
        check.due("12 is 9", 9, two.from(0));
        check.due("21 is 6, and not 12", 0, two.trees(4, 6));
    }

    private void stringLengths() {
        check.sentence("Terms", "8 letters at most (0 is the empty string)");
        TreeCount x = grammar("4>34 4>");
        check.due("no letter", 1, x.trees(4, 0));
        check.due("seven letters", 1, x.trees(4, 0x3FFF));
        check.due("eight letters", 1, x.trees(4, 0xFFFF));
        check.due("eight letters, nine rules", 9, x.least(0xFFFF));
        check.dueThrow("nine letters", Check.ARGUMENT, () -> x.trees(4, 0x3FFFF));
        check.dueThrow("nine letters, the ninth a 1", Check.ARGUMENT, () -> x.trees(4, 0x1FFFF));
        TreeCount none = grammar("4>3 4>33 4>333");
        check.due("0 is not a string of 3s", 0, none.trees(4, 0));
    }

    private void shorterIsLess() {
        check.sentence("Terms", "Of two strings the LESS one is the shorter one");
        check.due("3 before 11", string("3"), grammar("4>11 4>3").from(0));
        check.due("333 before 1111", string("333"), grammar("4>1111 4>333").from(0));
        check.due("33 before 111, of several trees", string("33"), grammar("4>111 4>111 4>33 4>33").ambiguous(6));
        check.due("the empty one before 1", 0, grammar("4>1 4>").from(0));
        check.due("from 33 comes 111", string("111"), grammar("4>111 4>32").from(string("33")));
        check.due("from 11 comes 3 no more", -1, grammar("4>3").from(string("11")));
    }

    private void lesserLetterIsLess() {
        check.sentence("Terms", "the one with the lesser letter at the first place where they differ");
        String[][] pairs = {{"12", "21"}, {"13", "31"}, {"23", "31"}, {"133", "211"}, {"1233", "1311"},
            {"1112", "1113"}, {"2113", "2121"}, {"111113", "111121"}, {"133333", "211111"}, {"332133", "332211"}};
        for (String[] pair : pairs) {
            TreeCount x = new TreeCount();
            addLong(x, pair[1]);
            addLong(x, pair[0]);
            addLong(x, pair[1]);
            addLong(x, pair[0]);
            String both = pair[0] + " and " + pair[1];
            check.due("the less one of " + both, string(pair[0]), x.from(0));
            check.due("the less one of several trees of " + both, string(pair[0]), x.ambiguous(6));
            check.due("from the less one of " + both, string(pair[0]), x.from(string(pair[0])));
            check.due("from the other one of " + both, string(pair[1]), x.from(string(pair[1])));
            check.due("both of " + both, 2, x.strings(pair[0].length()));
        }
    }

    /** A string of up to six letters as one the start has, by one nonterminal more for each. */
    private static void addLong(TreeCount x, String letters) {
        if (letters.length() <= 4) {
            add(x, "4>" + letters);
            return;
        }
        int next = 5 + x.look(0) / 2;
        String name = Integer.toHexString(next);
        add(x, "4>" + letters.substring(0, 3) + name + " " + name + ">" + letters.substring(3));
    }

    private void derivedFromStart() {
        check.sentence("Terms", "DERIVED from a symbol that has a tree with it; without more words: from the start");
        TreeCount x = grammar("4>1 5>2 5>2");
        check.due("strings", 1, x.strings(1));
        check.due("ambiguous", -1, x.ambiguous(6));
        check.due("from", -1, x.from(2));
        check.due("begins", false, x.begins(2));
        check.due("look(6)", 1, x.look(6));
        check.due("first is told of any nonterminal", bits(2), x.first(5));
        check.due("trees are told of any nonterminal", 2, x.trees(5, 2));
    }
}
