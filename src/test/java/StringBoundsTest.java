/** The bounds of promises 7 to 10: strings, ambiguous, from and begins, each sentence by itself. */
public final class StringBoundsTest extends Cases {
    private static final int[] NO_LENGTHS = {-1, -2, 7, 8, 9, 256, LOWEST, LOWEST + 6, HIGHEST};

    public static void main(String[] args) {
        StringBoundsTest test = new StringBoundsTest();
        test.stringsOfLength();
        test.stringsOnceEach();
        test.noSuchLengthOfStrings();
        test.ambiguousUpTo();
        test.ambiguousHasSeveral();
        test.ambiguousWithoutOne();
        test.noSuchLengthOfAmbiguous();
        test.fromIsNotLess();
        test.fromHasAtMostSix();
        test.fromWithoutOne();
        test.noSuchStringOfFrom();
        test.beginsOfAnyLength();
        test.beginsIsDerived();
        test.noSuchStringOfBegins();
        test.everyString();
        test.check.finish();
    }

    private void stringsOfLength() {
        check.sentence("Promise 7", "How many strings of a length are derived");
        TreeCount all = grammar("4>14 4>24 4>34 4>");
        int[] counts = {1, 3, 9, 27, 81, 243, 729};
        for (int length = 6; length >= 0; length--) {
            check.due("all of length " + length, counts[length], all.strings(length));
        }
        TreeCount some = grammar("4>555 5>12 5>33");
        for (int length = 0; length <= 6; length++) {
            check.due("those of length " + length, length == 6 ? 8 : 0, some.strings(length));
        }
        TreeCount empty = grammar("4>");
        check.due("the empty one", 1, empty.strings(0));
        check.due("none of one letter", 0, empty.strings(1));
        TreeCount six = grammar("4>333b b>333");
        check.due("the greatest one of six", 1, six.strings(6));
        check.due("no greater ones of five", 0, six.strings(5));
    }

    private void stringsOnceEach() {
        check.sentence("Promise 7", "How many strings of a length are derived");
        check.due("of two trees", 1, grammar("4>1 4>1").strings(1));
        check.due("of no end of trees", 1, grammar("4>4 4>1").strings(1));
        check.due("empty, of no end of trees", 1, grammar("4>44 4>").strings(0));
        TreeCount x = grammar("4>44 4>1 4>2 4>3 4>");
        check.due("all of six, each of no end of trees", 729, x.strings(6));
        x.drop(1);
        check.due("without 1, behind a drop", 64, x.strings(6));
        x.rule(4, 1);
        check.due("with 1 again", 729, x.strings(6));
    }

    private void noSuchLengthOfStrings() {
        check.sentence("Promise 7", "IllegalArgumentException when it is not 0 .. 6");
        TreeCount x = grammar("4>14 4>");
        for (int length : NO_LENGTHS) {
            check.dueThrow("strings(" + length + ")", Check.ARGUMENT, () -> x.strings(length));
        }
        check.due("strings(0)", 1, x.strings(0));
        check.due("strings(6)", 1, x.strings(6));
    }

    private void ambiguousUpTo() {
        check.sentence("Promise 8", "The least string of up to so many letters that has several trees");
        for (int letters = 0; letters <= 6; letters++) {
            String name = "3".repeat(letters);
            String head = "4>" + name.substring(0, Math.min(3, letters)) + "b";
            TreeCount x = grammar(head + " " + head + " b>" + name.substring(Math.min(3, letters)));
            for (int length = 0; length <= 6; length++) {
                int due = length < letters ? -1 : string(name);
                check.due("of " + letters + " letters, up to " + length, due, x.ambiguous(length));
            }
        }
        TreeCount several = grammar("4>3 4>3 4>21 4>21 4>12 4>12 4>111 4>111");
        check.due("up to none", -1, several.ambiguous(0));
        check.due("up to one", string("3"), several.ambiguous(1));
        check.due("up to six", string("3"), several.ambiguous(6));
        several.drop(0);
        check.due("3 has one tree now", string("12"), several.ambiguous(6));
        check.due("3 has one tree now, up to one", -1, several.ambiguous(1));
    }

    private void ambiguousHasSeveral() {
        check.sentence("Promise 8", "that has several trees");
        check.due("one", -1, grammar("4>1").ambiguous(6));
        check.due("two", 1, grammar("4>1 4>1").ambiguous(6));
        check.due("no end of them", 1, grammar("4>4 4>1").ambiguous(6));
        check.due("no end of empty ones", 0, grammar("4>44 4>").ambiguous(0));
        check.due("many", 0, grammar("4>5555 5>6666 6>7777 7>8888 8> 8>").ambiguous(0));
        check.due("two by where they are cut", string("111"), grammar("4>55 5>1 5>11").ambiguous(6));
        check.due("two by the first part", string("11"), grammar("4>55 5>1 5>1").ambiguous(6));
        check.due("two by an empty part", string("1"), grammar("4>56 5>1 6> 6>").ambiguous(6));
        check.due("two by the last of four", string("1232"), grammar("4>123b b>2 b>2").ambiguous(6));
        check.due("two by rules of one left side below", string("1"), grammar("4>b b>a b>9 a>1 9>1").ambiguous(6));
        for (String chain : new String[] {CHAIN, CHAIN_UPWARDS}) {
            check.due("two of the last of all", 2, grammar(chain + " b>2 b>2").ambiguous(6));
            check.due("a ring of all", 1, grammar(chain + " b>1 b>4").ambiguous(6));
            check.due("an empty ring of all", 0, grammar(chain + " b> b>4").ambiguous(0));
            check.due("one tree through all", -1, grammar(chain + " b>1").ambiguous(6));
        }
        check.due("a ring without a tree", -1, grammar("4>4 5>1").ambiguous(6));
        check.due("several beside what has none", -1, grammar("4>5b 5>1 5>1").ambiguous(6));
        check.due("no end of another's", -1, grammar("4>1 5>5 5>1").ambiguous(6));
    }

    private void ambiguousWithoutOne() {
        check.sentence("Promise 8", "-1 without one");
        for (int length = 0; length <= 6; length++) {
            check.due("no rules, up to " + length, -1, new TreeCount().ambiguous(length));
            check.due("one tree each, up to " + length, -1, grammar("4>14 4>24 4>34 4>").ambiguous(length));
        }
        TreeCount seven = grammar("4>123b b>1231 b>1231");
        check.due("one of seven letters has two", 2, seven.trees(4, string("1231231")));
        check.due("but has more than six", -1, seven.ambiguous(6));
    }

    private void noSuchLengthOfAmbiguous() {
        check.sentence("Promise 8", "IllegalArgumentException when it is not 0 .. 6");
        TreeCount x = grammar("4>4 4>");
        for (int length : NO_LENGTHS) {
            check.dueThrow("ambiguous(" + length + ")", Check.ARGUMENT, () -> x.ambiguous(length));
        }
        check.due("ambiguous(0)", 0, x.ambiguous(0));
        check.due("ambiguous(6)", 0, x.ambiguous(6));
    }

    private void fromIsNotLess() {
        check.sentence("Promise 9", "The least string that is derived, is not less than a string");
        TreeCount x = grammar("4> 4>1 4>31 4>13 4>222");
        check.due("from the empty one, itself", 0, x.from(0));
        check.due("from 1, itself", string("1"), x.from(string("1")));
        check.due("from 2, just above 1", string("13"), x.from(string("2")));
        check.due("from 3", string("13"), x.from(string("3")));
        check.due("from 12, just below 13", string("13"), x.from(string("12")));
        check.due("from 13, itself", string("13"), x.from(string("13")));
        check.due("from 21, just above 13", string("31"), x.from(string("21")));
        check.due("from 31, itself", string("31"), x.from(string("31")));
        check.due("from 32, just above 31", string("222"), x.from(string("32")));
        check.due("from 222, itself", string("222"), x.from(string("222")));
        check.due("from 223, just above 222", -1, x.from(string("223")));
        x.drop(0);
        check.due("from the empty one, which went", string("1"), x.from(0));
        TreeCount other = grammar("4>1");
        check.due("the start's", 1, other.from(0));
        other.drop(0);
        other.rule(5, 1);
        check.due("another's in its stead", -1, other.from(0));
    }

    private void fromHasAtMostSix() {
        check.sentence("Promise 9", "has at most 6 letters");
        TreeCount six = grammar("4>123b b>321");
        check.due("of six letters", string("123321"), six.from(0));
        check.due("from itself", string("123321"), six.from(string("123321")));
        check.due("from the one behind it", -1, six.from(string("123322")));
        TreeCount highest = grammar("4>333b b>333");
        check.due("the greatest one of six", string("333333"), highest.from(0));
        check.due("from itself, the greatest one", string("333333"), highest.from(string("333333")));
        check.due("from the least one of seven", -1, highest.from(string("1111111")));
        TreeCount seven = grammar("4>123b b>1231");
        check.due("of seven letters", 1, seven.trees(4, string("1231231")));
        check.due("from the empty one", -1, seven.from(0));
        check.due("from six letters", -1, seven.from(string("123123")));
        check.due("from itself, of seven letters", -1, seven.from(string("1231231")));
        check.due("from eight letters", -1, grammar("4>14 4>").from(0x5555));
        check.due("from the greatest string", -1, grammar("4>34 4>").from(0xFFFF));
    }

    private void fromWithoutOne() {
        check.sentence("Promise 9", "-1 without one");
        check.due("no rules", -1, new TreeCount().from(0));
        check.due("no rules, eight letters", -1, new TreeCount().from(0x5555));
        check.due("a ring alone", -1, grammar("4>4").from(0));
        check.due("the empty one is less", -1, grammar("4>").from(1));
        check.due("another's", -1, grammar("5>1").from(0));
        check.due("beside what has none", -1, grammar("4>15").from(0));
    }

    private void noSuchStringOfFrom() {
        check.sentence("Promise 9", "IllegalArgumentException when there is no such string");
        TreeCount x = grammar("4>14 4>");
        for (int string : NO_STRINGS) {
            check.dueThrow("from(" + string + ")", Check.ARGUMENT, () -> x.from(string));
        }
        check.due("behind the refusals", 0, x.from(0));
    }

    private void beginsOfAnyLength() {
        check.sentence("Promise 10", "Whether some string that is derived (of any length) begins with a string");
        TreeCount x = grammar("4>555 5>1231");
        String whole = "123112311231";
        for (int letters = 0; letters <= 8; letters++) {
            String head = whole.substring(0, letters);
            check.due("of twelve the first " + letters, true, x.begins(string(head)));
            if (letters > 0) {
                String other = head.substring(0, letters - 1) + (head.endsWith("2") ? "3" : "2");
                check.due("of twelve not " + other, false, x.begins(string(other)));
            }
        }
        TreeCount eight = grammar("4>55 5>1231");
        check.due("of eight all", true, eight.begins(string("12311231")));
        TreeCount seven = grammar("4>5123 5>1231");
        check.due("of seven all", true, seven.begins(string("1231123")));
        check.due("of seven not eight", false, seven.begins(string("12311231")));
        TreeCount far = grammar("4>5555 5>6666 6>7777 7>8888 8>9999 9>aaaa a>bbbb b>3");
        check.due("of 16384 the first eight", true, far.begins(0xFFFF));
        check.due("of 16384 not these", false, far.begins(0xBFFF));
        TreeCount endless = grammar("4>3334 4>2");
        check.due("of ever longer ones", true, endless.begins(0xFFFF));
        check.due("of the shortest", true, endless.begins(2));
        check.due("more than the shortest", false, endless.begins(string("21")));
        check.due("a left side at its own beginning", true, grammar("4>41 4>2").begins(string("21111111")));
        check.due("by the shorter of two parts", true, grammar("4>563 5>1 5>12 6>2").begins(string("123")));
        check.due("by the longer of two parts", true, grammar("4>563 5>1 5>12 6>2").begins(string("1223")));
        check.due("through all", true, grammar(CHAIN + " b>3b b>1").begins(0xFFFF));
        check.due("through all, upwards", true, grammar("b>3b b>1 " + CHAIN_UPWARDS).begins(0xFFFF));
    }

    private void beginsIsDerived() {
        check.sentence("Promise 10", "some string that is derived");
        check.due("no rules", false, new TreeCount().begins(0));
        check.due("a ring alone", false, grammar("4>4").begins(0));
        check.due("the empty one", true, grammar("4>").begins(0));
        check.due("the empty one and a letter", false, grammar("4>").begins(1));
        check.due("without an end", false, grammar("4>14").begins(1));
        check.due("without an end, the empty one", false, grammar("4>14").begins(0));
        check.due("behind it one without strings", false, grammar("4>12b").begins(string("12")));
        check.due("far behind it one without strings", false, grammar("4>5556 5>1231 6>16").begins(string("12311231")));
        check.due("far behind it one with strings", true, grammar("4>5556 5>1231 6>1").begins(string("12311231")));
        check.due("another's", false, grammar("4>1 5>2").begins(2));
        TreeCount x = grammar("4>1b b>2");
        check.due("before a drop", true, x.begins(1));
        x.drop(1);
        check.due("behind a drop", false, x.begins(1));
    }

    private void noSuchStringOfBegins() {
        check.sentence("Promise 10", "IllegalArgumentException when there is no such string");
        TreeCount x = grammar("4>14 4>");
        for (int string : NO_STRINGS) {
            check.dueThrow("begins(" + string + ")", Check.ARGUMENT, () -> x.begins(string) ? 1 : 0);
        }
        check.due("behind the refusals", true, x.begins(0x5555));
    }

    /** All numbers of up to seventeen bits, told by their written form; each object stays below 512 calls. */
    private void everyString() {
        check.sentence("Terms", "A STRING is told as a number");
        TreeCount x = null;
        for (int string = 0; string < 0x20000; string++) {
            if (string % 200 == 0) {
                x = grammar("4>14 4>24 4>34 4>");
            }
            TreeCount all = x;
            int number = string;
            String digits = Integer.toString(string, 4);
            if (string == 0 || digits.matches("[123]{1,8}")) {
                check.due("from " + string, digits.length() <= 6 ? string : -1, all.from(string));
                check.due("begins with " + string, true, all.begins(string));
            } else {
                check.dueThrow("from " + string, Check.ARGUMENT, () -> all.from(number));
                check.dueThrow("begins with " + string, Check.ARGUMENT, () -> all.begins(number) ? 1 : 0);
            }
        }
    }
}
