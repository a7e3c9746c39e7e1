import java.util.ArrayList;
import java.util.Arrays;
import java.util.List;

/**
 * Runs of 512 mixed calls on one object: rules come and go between the questions, refused calls are
 * among them, and each answer is compared with that of Oracle for the rules of that moment.
 */
public final class LongRunsTest {
    private static final int RUNS = 72;
    private static final int CALLS = 512;
    private static final int QUESTIONS = 10;
    /** A drop is the kind behind the questions, a rule the one behind it. */
    private static final int DROP = QUESTIONS;
    private static final int RULE = QUESTIONS + 1;
    private static final int KINDS = QUESTIONS + 2;
    private static final int[] NO_STRINGS = {-1, 4, 0x5554, 0x10000, 0x15555};

    private final Check check = new Check();
    private Grammars source;
    private TreeCount object;
    private final List<int[]> rules = new ArrayList<>();
    private Oracle oracle;
    private String before;

    public static void main(String[] args) {
        LongRunsTest test = new LongRunsTest();
        for (int run = 0; run < RUNS; run++) {
            test.run(run);
        }
        test.check.finish();
    }

    /** The last call is of each kind in turn. */
    private void run(int number) {
        source = new Grammars(5000 + number);
        object = new TreeCount();
        rules.clear();
        oracle = new Oracle(new ArrayList<>());
        for (int n = 1; n <= CALLS; n++) {
            before = "run " + number + ", call " + n + ", with " + told() + ": ";
            if (n % 128 == 1) {
                chooseKind(number);
            }
            boolean last = n == CALLS;
            if (!last && source.below(16) == 0) {
                refused(source.below(KINDS));
            } else {
                call(last ? number % KINDS : nextKind(n));
            }
        }
    }

    private String told() {
        StringBuilder text = new StringBuilder();
        for (int[] rule : rules) {
            text.append(Arrays.toString(rule));
        }
        return text.toString();
    }

    private void chooseKind(int number) {
        if (number % 2 == 0) {
            source.chooseKind();
        } else {
            source.chooseChain();
        }
    }

    /** Times in which rules rather come are followed by such in which they rather go. */
    private int nextKind(int n) {
        if (source.below(4) != 0) {
            return source.below(QUESTIONS);
        }
        boolean grows = n / 90 % 2 == 0;
        return source.below(5) == 0 == grows ? DROP : RULE;
    }

    private void call(int kind) {
        if (kind == RULE) {
            newRule();
        } else if (kind == DROP) {
            drop();
        } else {
            ask(kind);
        }
    }

    private void newRule() {
        int[] rule = source.newRule();
        int right = Grammars.right(rule);
        String call = before + "rule(" + rule[0] + ", " + right + ")";
        if (rules.size() == 24) {
            check.dueThrow(call, Check.STATE, () -> object.rule(rule[0], right));
            return;
        }
        rules.add(rule);
        oracle = new Oracle(new ArrayList<>(rules));
        check.due(call, rules.size(), object.rule(rule[0], right));
    }

    private void drop() {
        int i = source.below(rules.size() + 1);
        String call = before + "drop(" + i + ")";
        if (i == rules.size()) {
            check.dueThrow(call, Check.NO_ELEMENT, () -> object.drop(i));
            return;
        }
        rules.remove(i);
        oracle = new Oracle(new ArrayList<>(rules));
        check.due(call, rules.size(), object.drop(i));
    }

    private void ask(int kind) {
        int symbol = 4 + source.below(8);
        int length = source.below(7);
        if (kind == 0) {
            check.due(before + "first(" + symbol + ")", oracle.first(symbol), object.first(symbol));
        } else if (kind == 1) {
            check.due(before + "follow(" + symbol + ")", oracle.follow(symbol), object.follow(symbol));
        } else if (kind == 2) {
            int due = length == 6 ? oracle.stringsInAll() : oracle.look(length);
            check.due(before + "look(" + length + ")", due, object.look(length));
        } else if (kind == 3) {
            check.due(before + "strings(" + length + ")", oracle.strings(length), object.strings(length));
        } else if (kind == 4) {
            check.due(before + "ambiguous(" + length + ")", oracle.ambiguous(length), object.ambiguous(length));
        } else {
            askOfWord(kind, source.below(3) == 0 ? symbol : 4);
        }
    }

    private void askOfWord(int kind, int symbol) {
        int[] word = nextWord();
        int string = Grammars.number(word);
        int size = Math.min(30, source.below(4) == 0 ? source.below(31) : oracle.least(word) + source.below(6));
        if (kind == 5) {
            check.due(before + "from(" + string + ")", oracle.from(Grammars.letters(word)), object.from(string));
        } else if (kind == 6) {
            check.due(before + "begins(" + string + ")", oracle.begins(4, word), object.begins(string));
        } else if (kind == 7) {
            check.due(before + "least(" + string + ")", oracle.least(word), object.least(string));
        } else if (kind == 8) {
            check.due(before + "sized(" + string + ", " + size + ")", oracle.sized(word, size),
                object.sized(string, size));
        } else {
            check.due(before + "trees(" + symbol + ", " + string + ")", oracle.trees(symbol, word),
                object.trees(symbol, string));
        }
    }

    /** Any string, or one of those that are derived, so that not almost all answers are that there is none. */
    private int[] nextWord() {
        if (source.below(2) == 0) {
            return source.word(source.below(8) == 0 ? 8 : 4);
        }
        return oracle.someString(source.below(2000)).chars().map(letter -> letter - '0').toArray();
    }

    /** A call of some kind that throws. */
    private void refused(int kind) {
        int string = NO_STRINGS[source.below(NO_STRINGS.length)];
        int symbol = source.below(2) == 0 ? 12 : 0;
        int bound = source.below(2) == 0 ? 7 : -1;
        Check.Call[] calls = {() -> object.first(symbol), () -> object.follow(symbol), () -> object.look(bound),
            () -> object.strings(bound), () -> object.ambiguous(bound), () -> object.from(string),
            () -> object.begins(string) ? 1 : 0, () -> object.least(string), () -> object.sized(string, 3),
            () -> object.trees(4, string), () -> object.drop(24), () -> object.rule(symbol, 1)};
        check.dueThrow(before + "refused, kind " + kind, kind == DROP ? Check.NO_ELEMENT : Check.ARGUMENT, calls[kind]);
    }
}
