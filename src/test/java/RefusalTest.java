/** A call that throws changes nothing: behind it, an object answers as one that never had the call. */
public final class RefusalTest extends Cases {
    private static final String SOME = "4>45 4>1 5>2 5> 6>66 6>3";
    /** 24 of them, no two alike. */
    private static final String FULL = "4>45 4>1 5>2 5> 6>66 6>3 4>6 7>71 7>8 8>9 9>1a a>b b>4 b>33 4>3333 5>123 "
        + "6>2b1 7>3 8>3 9>22 a>12 b>2 4>5a 5>31";

    /** A call on an object that is told to it. */
    private interface Refused {
        long on(TreeCount x);
    }

    public static void main(String[] args) {
        RefusalTest test = new RefusalTest();
        test.check.sentence("Terms", "a call that throws changes nothing");
        test.refusedRules();
        test.refusedDrops();
        test.refusedStrings();
        test.refusedOthers();
        test.refusedBetween();
        test.check.finish();
    }

    private void refusedRules() {
        for (int left : NO_NONTERMINALS) {
            nothingChanges("rule(" + left + ", 1)", Check.ARGUMENT, x -> x.rule(left, 1), "", SOME, FULL);
        }
        for (int right : new int[] {-1, 12, 0x10, 0x101, 0xC1, 0x1C11, 0xC111, 0x10000, 0x11111, HIGHEST, LOWEST}) {
            nothingChanges("rule(4, " + right + ")", Check.ARGUMENT, x -> x.rule(4, right), "", SOME, FULL);
        }
        nothingChanges("rule(4, 2) as the 25th", Check.STATE, x -> x.rule(4, 2), FULL);
        nothingChanges("rule(5, 0) as the 25th", Check.STATE, x -> x.rule(5, 0), FULL);
        nothingChanges("rule(11, 47 * 256) as the 25th", Check.ARGUMENT, x -> x.rule(11, 47 * 256), FULL);
    }

    private void refusedDrops() {
        nothingChanges("drop(0)", Check.NO_ELEMENT, x -> x.drop(0), "");
        nothingChanges("drop(6)", Check.NO_ELEMENT, x -> x.drop(6), "", SOME);
        for (int i : new int[] {-1, 24, 25, LOWEST, HIGHEST}) {
            nothingChanges("drop(" + i + ")", Check.NO_ELEMENT, x -> x.drop(i), "", SOME, FULL);
        }
    }

    private void refusedStrings() {
        for (int string : new int[] {-1, 4, 0x5554, 0x10001, 0x15555}) {
            nothingChanges("trees(4, " + string + ")", Check.ARGUMENT, x -> x.trees(4, string), "", SOME, FULL);
            nothingChanges("trees(1, " + string + ")", Check.ARGUMENT, x -> x.trees(1, string), SOME);
            nothingChanges("sized(" + string + ", 3)", Check.ARGUMENT, x -> x.sized(string, 3), "", SOME, FULL);
            nothingChanges("least(" + string + ")", Check.ARGUMENT, x -> x.least(string), "", SOME, FULL);
            nothingChanges("from(" + string + ")", Check.ARGUMENT, x -> x.from(string), "", SOME, FULL);
            nothingChanges("begins(" + string + ")", Check.ARGUMENT, x -> x.begins(string) ? 1 : 0, "", SOME, FULL);
        }
    }

    private void refusedOthers() {
        for (int symbol : new int[] {-1, 0, 12}) {
            nothingChanges("trees(" + symbol + ", 1)", Check.ARGUMENT, x -> x.trees(symbol, 1), "", SOME, FULL);
            nothingChanges("first(" + symbol + ")", Check.ARGUMENT, x -> x.first(symbol), "", SOME, FULL);
            nothingChanges("follow(" + symbol + ")", Check.ARGUMENT, x -> x.follow(symbol), "", SOME, FULL);
        }
        for (int length : new int[] {-1, 7}) {
            nothingChanges("strings(" + length + ")", Check.ARGUMENT, x -> x.strings(length), "", SOME, FULL);
            nothingChanges("ambiguous(" + length + ")", Check.ARGUMENT, x -> x.ambiguous(length), "", SOME, FULL);
            nothingChanges("look(" + length + ")", Check.ARGUMENT, x -> x.look(length), "", SOME, FULL);
        }
        for (int size : new int[] {-1, 31}) {
            nothingChanges("sized(1, " + size + ")", Check.ARGUMENT, x -> x.sized(1, size), "", SOME, FULL);
        }
    }

    /** Refused calls between those that make a grammar, one behind each. */
    private void refusedBetween() {
        TreeCount x = new TreeCount();
        TreeCount twin = new TreeCount();
        String[] rules = FULL.split(" ");
        for (int n = 0; n < rules.length; n++) {
            int none = n;
            check.dueThrow("drop(" + n + ") of " + n, Check.NO_ELEMENT, () -> x.drop(none));
            check.dueThrow("rule(3, 1) behind " + n, Check.ARGUMENT, () -> x.rule(3, 1));
            add(x, rules[n]);
            add(twin, rules[n]);
        }
        sameAnswers("refused calls between rules", x, twin);
        sameDrops("refused calls between rules", x, twin);
    }

    private void nothingChanges(String call, String thrown, Refused refused, String... grammars) {
        for (String rules : grammars) {
            for (int before = 0; before <= 1; before++) {
                TreeCount x = rules.isEmpty() ? new TreeCount() : grammar(rules);
                TreeCount twin = rules.isEmpty() ? new TreeCount() : grammar(rules);
                String told = call + (before == 0 ? " on new rules" : " behind answers") + " of '" + rules + "'";
                if (before == 1) {
                    sameAnswers(told, x, twin);
                }
                check.dueThrow(told, thrown, () -> refused.on(x));
                sameAnswers(told, x, twin);
                check.dueThrow(told + " again", thrown, () -> refused.on(x));
                sameDrops(told, x, twin);
            }
        }
    }

    private void sameAnswers(String told, TreeCount x, TreeCount twin) {
        for (int what = 0; what <= 6; what++) {
            check.due(told + ", look(" + what + ")", twin.look(what), x.look(what));
            check.due(told + ", strings(" + what + ")", twin.strings(what), x.strings(what));
        }
        for (int a = 4; a <= 11; a++) {
            check.due(told + ", first(" + a + ")", twin.first(a), x.first(a));
            check.due(told + ", follow(" + a + ")", twin.follow(a), x.follow(a));
            check.due(told + ", trees(" + a + ", 2)", twin.trees(a, 2), x.trees(a, 2));
        }
        for (int string : new int[] {0, 1, 2, string("122"), string("333123")}) {
            check.due(told + ", trees(4, " + string + ")", twin.trees(4, string), x.trees(4, string));
            check.due(told + ", sized(" + string + ", 6)", twin.sized(string, 6), x.sized(string, 6));
            check.due(told + ", least(" + string + ")", twin.least(string), x.least(string));
            check.due(told + ", from(" + string + ")", twin.from(string), x.from(string));
            check.due(told + ", begins(" + string + ")", twin.begins(string), x.begins(string));
        }
        check.due(told + ", ambiguous(6)", twin.ambiguous(6), x.ambiguous(6));
    }

    /** The rules go from both, one by one, so that their order is seen, too. */
    private void sameDrops(String told, TreeCount x, TreeCount twin) {
        for (int left = twin.look(0); left > 0; left--) {
            check.due(told + ", drop", twin.drop(left / 3), x.drop(left / 3));
            check.due(told + ", use behind drop", twin.look(5), x.look(5));
            check.due(told + ", rows behind drop", twin.look(3), x.look(3));
            for (int a = 4; a <= 11; a++) {
                check.due(told + ", first behind drop", twin.first(a), x.first(a));
            }
        }
        check.dueThrow(told + ", drop behind all drops", Check.NO_ELEMENT, () -> x.drop(0));
    }
}
