import java.util.ArrayList;
import java.util.Arrays;
import java.util.Collections;
import java.util.List;

/**
 * Grammars whose rules lead through all eight nonterminals one after the other. In their rules A stands
 * for the start and B to H for the others, in several ways; each with its rules in several orders.
 */
public final class ChainTest extends Cases {
    /** Which nonterminals A to H are. */
    private static final String[] WAYS = {"456789ab", "4ba98765", "48596a7b", "4b5a6978", "4a6b5798"};
    private static final String STEPS = "A>B B>C C>D D>E E>F F>G G>H";
    private static final int ORDERS = 5;
    private static final int LETTERS = bits(1, 2, 3);
    private static final int ALL = bits(4, 5, 6, 7, 8, 9, 10, 11);

    private String way;
    private int order;

    public static void main(String[] args) {
        ChainTest test = new ChainTest();
        for (String way : WAYS) {
            for (int order = 0; order < ORDERS; order++) {
                test.way = way;
                test.order = order;
                test.all();
            }
        }
        test.check.finish();
    }

    private void all() {
        treesOfChain();
        treesOfRing();
        treesBesideRing();
        treesByParts();
        sizedOfChain();
        leastOfChain();
        leastOfParts();
        listedStrings();
        listedBehindRing();
        beginsOfChain();
        beginsByRings();
        beginsByLetters();
        firstOfChain();
        firstBehindVanishing();
        followOfChain();
        followOfNext();
        lookOfChain();
        lookOfRing();
        lookOfUse();
        rulesGoRound();
    }

    /** The nonterminal for A to H, told as 0 to 7. */
    private int on(int place) {
        return Character.digit(way.charAt(place), 16);
    }

    private String named(String rules) {
        String text = rules;
        for (int place = 0; place < 8; place++) {
            text = text.replace((char) ('A' + place), way.charAt(place));
        }
        return text;
    }

    private TreeCount chain(String rules) {
        List<String> list = new ArrayList<>(Arrays.asList(named(rules).split(" ")));
        switch (order) {
            case 0:
                break;
            case 1:
                Collections.reverse(list);
                break;
            case 2:
                Collections.rotate(list, list.size() / 2);
                break;
            default:
                alternate(list, order == 3);
        }
        return grammar(String.join(" ", list));
    }

    /** Every other rule, and then the rest. */
    private static void alternate(List<String> list, boolean restBackwards) {
        List<String> rest = new ArrayList<>();
        for (int n = list.size() - 1; n > 0; n -= 2) {
            rest.add(list.remove(n));
        }
        if (!restBackwards) {
            Collections.reverse(rest);
        }
        list.addAll(rest);
    }

    private void told(String where, String what) {
        check.sentence(where + " by way of " + way + " in order " + order, what);
    }

    private void treesOfChain() {
        told("Promise 4", "How many trees a symbol has with a string");
        TreeCount one = chain(STEPS + " H>1");
        TreeCount empty = chain(STEPS + " H>");
        TreeCount none = chain(STEPS);
        TreeCount twice = chain(STEPS + " " + STEPS + " H>1 H>1 H>1");
        for (int place = 0; place < 8; place++) {
            check.due("one of " + on(place), 1, one.trees(on(place), 1));
            check.due("another letter of " + on(place), 0, one.trees(on(place), 2));
            check.due("no letter of " + on(place), 0, one.trees(on(place), 0));
            check.due("the empty one of " + on(place), 1, empty.trees(on(place), 0));
            check.due("a letter of " + on(place), 0, empty.trees(on(place), 1));
            check.due("none of " + on(place), 0, none.trees(on(place), 0));
            check.due("each step twice from " + on(place), 3 << (7 - place), twice.trees(on(place), 1));
        }
    }

    private void treesOfRing() {
        told("Promise 4", "-1 when there is no end of them");
        TreeCount ring = chain(STEPS + " H>A H>1");
        TreeCount empty = chain(STEPS + " H>A H>");
        TreeCount none = chain(STEPS + " H>A");
        TreeCount letters = chain(STEPS + " H>2A H>1");
        for (int place = 0; place < 8; place++) {
            check.due("a ring from " + on(place), -1, ring.trees(on(place), 1));
            check.due("a ring with another letter", 0, ring.trees(on(place), 2));
            check.due("an empty ring from " + on(place), -1, empty.trees(on(place), 0));
            check.due("an empty ring with a letter", 0, empty.trees(on(place), 1));
            check.due("a ring alone", 0, none.trees(on(place), 0));
            check.due("round with letters from " + on(place), 1, letters.trees(on(place), string("2221")));
        }
        check.due("seven times round with letters", 1, letters.trees(4, string("22222221")));
        check.due("not with these", 0, letters.trees(4, string("22222212")));
    }

    private void treesBesideRing() {
        told("Promise 4", "-1 when there is no end of them");
        TreeCount atEnd = chain(STEPS + " G>G H>1");
        TreeCount atStart = chain(STEPS + " A>A H>1");
        TreeCount vanishing = chain("A>BH B>C C>D D>E E>F F>G G>H G>G H>1 H>");
        for (int place = 0; place < 8; place++) {
            check.due("above a ring: " + on(place), place < 7 ? -1 : 1, atEnd.trees(on(place), 1));
            check.due("below a ring: " + on(place), place == 0 ? -1 : 1, atStart.trees(on(place), 1));
            check.due("beside a ring: " + on(place), place < 7 ? -1 : 1, vanishing.trees(on(place), 1));
        }
        check.due("a ring for each of two letters", -1, vanishing.trees(4, string("11")));
        check.due("three letters", 0, vanishing.trees(4, string("111")));
        TreeCount far = chain("A>B1 B>C2 C>D3 D>E E>F F>G G>H H>D H>1");
        check.due("a ring behind letters", -1, far.trees(4, string("1321")));
        check.due("not with these", 0, far.trees(4, string("1312")));
    }

    /** Eight of H in all, each with a letter or without. */
    private void treesByParts() {
        told("Promise 4", "How many trees a symbol has with a string");
        TreeCount x = chain("A>BH B>CH C>DH D>EH E>FH F>GH G>HH H> H>1");
        long[] choices = {1, 8, 28, 56, 70, 56, 28, 8, 1};
        for (int letters = 0; letters <= 8; letters++) {
            check.due(letters + " of eight", choices[letters], x.trees(4, string("1".repeat(letters))));
        }
        told("Promise 4", "1000000000000000 when there are as many, or more");
        TreeCount squares = chain("A>BB B>CC C>DD D>EE E>FF F>GG G>HH H> H>");
        long[] counts = {MANY, MANY, 1L << 32, 1 << 16, 256, 16, 4, 2};
        for (int place = 0; place < 8; place++) {
            check.due("two, squared on the way to " + on(place), counts[place], squares.trees(on(place), 0));
        }
    }

    private void sizedOfChain() {
        told("Promise 5", "How many trees of a size the start has with a string");
        TreeCount one = chain(STEPS + " H>1");
        TreeCount ring = chain(STEPS + " H>A H>A H>1");
        for (int size = 0; size <= 30; size++) {
            check.due("size " + size, size == 8 ? 1 : 0, one.sized(1, size));
            int due = size > 0 && size % 8 == 0 ? 1 << (size / 8 - 1) : 0;
            check.due("size " + size + " of a ring of two ways", due, ring.sized(1, size));
        }
        TreeCount parts = chain("A>BH B>CH C>DH D>EH E>FH F>GH G>HH H> H>1");
        check.due("by parts, seven steps and eight ends", 70, parts.sized(string("1111"), 15));
        check.due("by parts, one rule fewer", 0, parts.sized(string("1111"), 14));
    }

    private void leastOfChain() {
        told("Promise 6", "The least size of the start's trees with a string; 0 without one");
        TreeCount one = chain(STEPS + " H>1 H>");
        check.due("a letter", 8, one.least(1));
        check.due("the empty one", 8, one.least(0));
        check.due("another letter", 0, one.least(2));
        check.due("without an end", 0, chain(STEPS).least(0));
        check.due("a ring alone", 0, chain(STEPS + " H>A").least(0));
        check.due("a ring", 8, chain(STEPS + " H>A H>1").least(1));
        TreeCount letters = chain(STEPS + " H>2A H>1");
        check.due("thrice round", 32, letters.least(string("2221")));
        check.due("seven times round", 64, letters.least(string("22222221")));
        TreeCount left = chain(STEPS + " H>A2 H>1");
        check.due("seven times round to the left", 64, left.least(string("12222222")));
        check.due("not with these", 0, left.least(string("12222221")));
    }

    private void leastOfParts() {
        told("Promise 6", "The least size of the start's trees with a string");
        String fours = "A>BBBB B>CCCC C>DDDD D>EEEE E>FFFF F>GGGG G>HHHH";
        TreeCount deep = chain(fours + " H>");
        check.due("four of each", 21845, deep.least(0));
        check.due("four of each, with eight letters", 21853, chain(fours + " H> H>3H").least(0xFFFF));
        check.due("four of each, or one", 8, chain(fours + " H> " + STEPS).least(0));
        check.due("four of each, or one of the last", 9557, chain(fours + " H> G>H").least(0));
        check.due("four of each, or one of the first", 5462, chain(fours + " H> A>B").least(0));
        check.due("four of each, with rings", 21845, chain(fours + " H> A>A D>A G>B H>HHHH H>C").least(0));
    }

    private void listedStrings() {
        told("Promises 7, 8, 9, 13", "strings that are derived");
        TreeCount x = chain(STEPS + " H>1A H>2A H>3A H>");
        int[] counts = {1, 3, 9, 27, 81, 243, 729};
        for (int length = 6; length >= 0; length--) {
            check.due("strings(" + length + ")", counts[length], x.strings(length));
        }
        check.due("look(6)", 1093, x.look(6));
        check.due("from", string("313131"), x.from(string("313131")));
        check.due("each has one tree", -1, x.ambiguous(6));
        TreeCount left = chain(STEPS + " H>A1 H>2");
        check.due("left: look(6)", 6, left.look(6));
        check.due("left: from", string("21111"), left.from(string("2112")));
        check.due("left: none behind", -1, left.from(string("211112")));
        check.due("left: each has one tree", -1, left.ambiguous(6));
        TreeCount none = chain(STEPS + " H>1A");
        check.due("without an end: look(6)", 0, none.look(6));
        check.due("without an end: from", -1, none.from(0));
    }

    /** Several trees are known only when the ring is closed, through all nonterminals but the start. */
    private void listedBehindRing() {
        told("Promise 8", "The least string of up to so many letters that has several trees");
        check.due("a ring", 1, chain(STEPS + " H>A H>1").ambiguous(6));
        check.due("an empty ring", 0, chain(STEPS + " H>A H>").ambiguous(0));
        check.due("two at the end", string("1"), chain(STEPS + " H>1 H>1").ambiguous(6));
        TreeCount x = chain("B>A C>B D>C E>D F>E G>F H>G B>H A>1 A>2H");
        check.due("one behind a ring without the start", string("21"), x.ambiguous(6));
        check.due("none of one letter", -1, x.ambiguous(1));
        TreeCount four = chain("B>A C>B D>C E>D F>E G>F H>G B>H A>1 A>333H");
        check.due("the last of four", string("3331"), four.ambiguous(6));
        TreeCount empty = chain("B>A C>B D>C E>D F>E G>F H>G B>H A> A>3H");
        check.due("an empty ring behind a letter", string("3"), empty.ambiguous(6));
    }

    private void beginsOfChain() {
        told("Promise 10", "Whether some string that is derived (of any length) begins with a string");
        TreeCount one = chain(STEPS + " H>1");
        check.due("the empty string", true, one.begins(0));
        check.due("a letter", true, one.begins(1));
        check.due("another letter", false, one.begins(2));
        check.due("two letters", false, one.begins(string("11")));
        TreeCount empty = chain(STEPS + " H>");
        check.due("the empty one alone", true, empty.begins(0));
        check.due("a letter of the empty one", false, empty.begins(1));
        check.due("without an end", false, chain(STEPS).begins(0));
        check.due("a ring alone", false, chain(STEPS + " H>1A").begins(1));
        check.due("a string behind it", true, chain("A>1B B>C C>D D>E E>F F>G G>H H>2").begins(1));
        check.due("the empty one behind it", true, chain("A>1B B>C C>D D>E E>F F>G G>H H>").begins(1));
        check.due("no string behind it", false, chain("A>1B B>C C>D D>E E>F F>G G>H H>H").begins(1));
    }

    private void beginsByRings() {
        told("Promise 10", "Whether some string that is derived (of any length) begins with a string");
        TreeCount left = chain(STEPS + " H>A1 H>2");
        TreeCount right = chain(STEPS + " H>1A H>2");
        TreeCount both = chain(STEPS + " H>1A3 H>2");
        for (int letters = 0; letters <= 7; letters++) {
            String ones = "1".repeat(letters);
            check.due("left, 2" + ones, true, left.begins(string("2" + ones)));
            check.due("left, 2 behind 2" + ones, false, letters < 7 && left.begins(string("2" + ones + "2")));
            check.due("right, " + ones + "2", true, right.begins(string(ones + "2")));
            check.due("right, 1 behind " + ones + "2", false, letters < 7 && right.begins(string(ones + "21")));
            check.due("both, 1" + ones, true, both.begins(string("1" + ones)));
        }
        check.due("left, not first", false, left.begins(1));
        check.due("both, all", true, both.begins(string("1112333")));
        check.due("both, one too many", false, both.begins(string("11123333")));
        check.due("both, more behind", true, both.begins(string("11111233")));
        TreeCount start = chain("A>2A A>1B B>C C>D D>E E>F F>G G>H H>A H>3");
        check.due("round and round", true, start.begins(string("12112212")));
    }

    private void beginsByLetters() {
        told("Promise 10", "Whether some string that is derived (of any length) begins with a string");
        String whole = "12312312";
        TreeCount ahead = chain("A>1B B>2C C>3D D>1E E>2F F>3G G>1H H>2");
        TreeCount behind = chain("A>B2 B>C1 C>D3 D>E2 E>F1 F>G3 G>H2 H>1");
        for (int letters = 1; letters <= 8; letters++) {
            String head = whole.substring(0, letters);
            String other = head.substring(0, letters - 1) + (head.endsWith("3") ? "1" : "3");
            check.due("each a letter ahead: " + head, true, ahead.begins(string(head)));
            check.due("each a letter ahead: " + other, false, ahead.begins(string(other)));
            check.due("each a letter behind: " + head, true, behind.begins(string(head)));
            check.due("each a letter behind: " + other, false, behind.begins(string(other)));
        }
    }

    private void firstOfChain() {
        told("Promise 11", "The letters with which strings derived from a nonterminal can begin");
        TreeCount x = chain(STEPS + " H>3");
        TreeCount empty = chain(STEPS + " H>");
        TreeCount none = chain(STEPS + " H>3A");
        TreeCount all = chain(STEPS + " H>1 H>2A H>31");
        TreeCount own = chain("A>B A>1 B>C B>2 C>D C>3 D>E E>F F>G G>H H>");
        for (int place = 0; place < 8; place++) {
            check.due("of " + on(place), bits(3), x.first(on(place)));
            check.due("the empty one of " + on(place), bits(0), empty.first(on(place)));
            check.due("without an end, of " + on(place), 0, none.first(on(place)));
            check.due("all of " + on(place), bits(1, 2, 3), all.first(on(place)));
            int due = bits(0) | LETTERS & -1 << (place + 1);
            check.due("each a letter more, of " + on(place), due, own.first(on(place)));
        }
    }

    /** That the start can vanish is known only behind all others, and what stands behind it comes then. */
    private void firstBehindVanishing() {
        told("Promise 11", "The letters with which strings derived from a nonterminal can begin");
        TreeCount x = chain(STEPS + " H> H>A2");
        TreeCount two = chain("A>BB B>CC C>DD D>EE E>FF F>GG G>HH H> H>AA3");
        TreeCount not = chain(STEPS + " H>1 H>A2");
        TreeCount part = chain("A>B B>C C>D D>E E>F F>G G>H H> C>B1 E>D2 G>F3");
        for (int place = 0; place < 8; place++) {
            check.due("behind the start, of " + on(place), bits(0, 2), x.first(on(place)));
            check.due("behind two of it, of " + on(place), bits(0, 3), two.first(on(place)));
            check.due("behind what can't vanish, of " + on(place), bits(1), not.first(on(place)));
            int due = place == 7 ? bits(0) : place > 4 ? bits(0, 3) : place > 2 ? bits(0, 2, 3) : bits(0, 1, 2, 3);
            check.due("behind the one before, of " + on(place), due, part.first(on(place)));
        }
        check.due("no string behind it", 0, chain("A>1B B>C C>D D>E E>F F>G G>H H>H").first(4));
    }

    private void followOfChain() {
        told("Promise 12", "The letters that can stand right behind a nonterminal in rows; at the end of one");
        TreeCount end = chain(STEPS);
        TreeCount letter = chain("A>B1 B>C C>D D>E E>F F>G G>H");
        TreeCount own = chain("A>B1 B>C2 C>D3 D>E E>F F>G G>H");
        TreeCount ring = chain(STEPS + " H>A2");
        TreeCount round = chain("A>B1 " + STEPS + " H>A");
        TreeCount vanishing = chain("A>B1 B>CH C>DH D>EH E>FH F>GH G>HH H> H>3");
        for (int place = 0; place < 8; place++) {
            check.due("at the end: " + on(place), bits(0), end.follow(on(place)));
            check.due("before a letter: " + on(place), bits(place == 0 ? 0 : 1), letter.follow(on(place)));
            check.due("before its own letter: " + on(place), bits(Math.min(3, place)), own.follow(on(place)));
            check.due("in a ring: " + on(place), bits(0, 2), ring.follow(on(place)));
            check.due("round to the start: " + on(place), bits(0, 1), round.follow(on(place)));
            int due = place == 0 ? bits(0) : place == 1 ? bits(1) : bits(1, 3);
            check.due("before what can vanish: " + on(place), due, vanishing.follow(on(place)));
        }
    }

    private void followOfNext() {
        told("Promise 12", "The letters that can stand right behind a nonterminal in rows");
        TreeCount next = chain("A>AB B>C C>D D>E E>F F>G G>H H>3");
        TreeCount noString = chain("A>AB B>C C>D D>E E>F F>G G>H H>3H");
        TreeCount vanishing = chain("A>AB2 B>C C>D D>E E>F F>G G>H H>");
        TreeCount through = chain("A>AB2 A>B B>C C>D D>E E>F F>G G>H H> H>A3");
        for (int place = 0; place < 8; place++) {
            check.due("what begins the next one: " + on(place), bits(0, 3), next.follow(on(place)));
            check.due("what begins its rows: " + on(place), bits(0, 3), noString.follow(on(place)));
            int due = place == 0 ? bits(0, 2) : bits(2);
            check.due("behind the next one that vanishes: " + on(place), due, vanishing.follow(on(place)));
            check.due("behind what vanishes in a ring: " + on(place), bits(0, 2, 3), through.follow(on(place)));
        }
        TreeCount never = chain("B>C1 C>D D>E E>F F>G G>H H>B A>2");
        for (int place = 1; place < 8; place++) {
            check.due("never in a row: " + on(place), 0, never.follow(on(place)));
        }
    }

    private void lookOfChain() {
        told("Promise 13", "1 that derive any string, 2 that derive the empty one, 3 that can be in a row");
        TreeCount letter = chain(STEPS + " H>1");
        check.due("a letter: look(1)", ALL, letter.look(1));
        check.due("a letter: look(2)", 0, letter.look(2));
        check.due("a letter: look(3)", ALL, letter.look(3));
        TreeCount empty = chain(STEPS + " H>");
        check.due("the empty one: look(1)", ALL, empty.look(1));
        check.due("the empty one: look(2)", ALL, empty.look(2));
        TreeCount none = chain(STEPS);
        check.due("without an end: look(1)", 0, none.look(1));
        check.due("without an end: look(2)", 0, none.look(2));
        check.due("without an end: look(3)", ALL, none.look(3));
        TreeCount fours = chain("A>BBBB B>CCCC C>DDDD D>EEEE E>FFFF F>GGGG G>HHHH H>");
        check.due("four of each: look(1)", ALL, fours.look(1));
        check.due("four of each: look(2)", ALL, fours.look(2));
        TreeCount cut = chain("A>B B>C C>D D>1 E>F F>G G>H H>2");
        check.due("cut: look(3)", bits(4, on(1), on(2), on(3)), cut.look(3));
        check.due("cut: look(1)", ALL, cut.look(1));
    }

    private void lookOfRing() {
        told("Promise 13", "4 of which a row that has the same one (and others, maybe) can come");
        check.due("a chain", 0, chain(STEPS + " H>1").look(4));
        check.due("a ring", ALL, chain(STEPS + " H>A").look(4));
        check.due("a ring among others", ALL, chain("A>1B B>C2 C>33D D>E E>1F1 F>G G>HG H>222A").look(4));
        check.due("a ring without the start", ALL & ~bits(4), chain(STEPS + " H>B").look(4));
        check.due("a ring of the last two", bits(on(6), on(7)), chain(STEPS + " H>G").look(4));
        check.due("a ring of the first two", bits(on(0), on(1)), chain(STEPS + " B>A").look(4));
        check.due("the last alone", bits(on(7)), chain(STEPS + " H>H").look(4));
        check.due("two rings", ALL & ~bits(on(3)), chain(STEPS + " C>A H>E").look(4));
    }

    private void lookOfUse() {
        told("Promise 13", "5 rules of use: those that are in some tree of the start");
        check.due("a chain", 8, chain(STEPS + " H>1").look(5));
        check.due("without an end", 0, chain(STEPS).look(5));
        check.due("a ring alone", 0, chain(STEPS + " H>A").look(5));
        check.due("a ring", 9, chain(STEPS + " H>A H>").look(5));
        check.due("several at the end", 11, chain(STEPS + " H>1 H>1 H>2H H>").look(5));
        check.due("a string beside comes through all", 9, chain("A>B1 A>2 B>C C>D D>E E>F F>G G>H H>3").look(5));
        check.due("no string beside", 1, chain("A>B1 A>2 B>C C>D D>E E>F F>G G>H H>3H").look(5));
        check.due("no way from the start", 2, chain("A>B B>1 C>D D>E E>F F>G G>H H>3 H>A").look(5));
        check.due("a way by a rule of no use", 1, chain("A>1 A>BC B>1 D>E E>F F>G G>H H>3").look(5));
    }

    /** The first rule goes and comes again as the last, until all have: the answers stay. */
    private void rulesGoRound() {
        told("Promises 2 and 3", "One rule more; rule i goes; those behind it come a number lower");
        String[] rules = named(STEPS + " H>A2 H>1").split(" ");
        TreeCount x = grammar(String.join(" ", rules));
        for (int n = 0; n < 2 * rules.length; n++) {
            check.due("trees", 1, x.trees(4, string("12222222")));
            check.due("least", 64, x.least(string("12222222")));
            check.due("begins", true, x.begins(string("1222")));
            check.due("first", bits(1), x.first(on(n % 8)));
            check.due("follow", bits(0, 2), x.follow(on(n % 8)));
            check.due("look(4)", ALL, x.look(4));
            check.due("strings", 1, x.strings(3));
            x.drop(0);
            int gone = n % rules.length;
            check.due("strings without " + rules[gone], 0, x.strings(3));
            check.due("look(4) without " + rules[gone], gone == 8 ? ALL : 0, x.look(4));
            check.due("trees without " + rules[gone], gone == 7 ? 1 : 0, x.trees(4, 1));
            add(x, rules[gone]);
        }
    }
}
