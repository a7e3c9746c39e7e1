/** An object is used for 512 calls: the last of them is answered as the first would be. */
public final class CallsTest extends Cases {
    private static final int MOST_CALLS = 512;
    private static final int[] STRINGS = {0, 1, string("12"), string("321"), string("3121"), string("12121212"), 0xFFFF,
        0x5555};

    public static void main(String[] args) {
        CallsTest test = new CallsTest();
        test.check.sentence("What it is", "An object is used for at most 512 calls after it has been made");
        test.changesAllTheTime();
        test.everyKindLast();
        test.refusalsCount();
        test.check.finish();
    }

    /** Rules come and go in all calls but the last one. */
    private void changesAllTheTime() {
        TreeCount x = new TreeCount();
        int calls = 0;
        int rules = 0;
        while (calls < MOST_CALLS - 1) {
            boolean grows = rules == 0 || rules < 24 && calls / 60 % 2 == 0;
            rules += grows ? 1 : -1;
            check.due("call " + (calls + 1), rules, grows ? x.rule(4, right(calls % 3 + 1)) : x.drop(rules / 2));
            calls++;
        }
        check.due("call 512", rules, x.look(0));
    }

    /** 24 rules that make each call dear, then all other calls in turn, each kind once as the 512th. */
    private void everyKindLast() {
        for (int kind = 0; kind < 10; kind++) {
            TreeCount x = dear();
            TreeCount fresh = dear();
            for (int calls = 24; calls < MOST_CALLS - 1; calls++) {
                ask(x, calls % 10, calls);
            }
            check.due("kind " + kind + " as call 512", ask(fresh, kind, 7), ask(x, kind, 7));
        }
    }

    private static TreeCount dear() {
        return grammar("4>5678 4>6b 5>66 5>1 6>77 6>2 7>8888 7>3 7>1 8>99 8> 8>123 9>aaa 9>1 a>bb a>2 a> b>4 b>31 b>1 "
            + "b>b2 6>444 9>99 5>5");
    }

    private static long ask(TreeCount x, int kind, int n) {
        int string = STRINGS[n % 8];
        switch (kind) {
            case 0:
                return x.trees(4 + n % 8, string);
            case 1:
                return x.sized(string, 30 - n % 8);
            case 2:
                return x.least(string);
            case 3:
                return x.strings(n % 7);
            case 4:
                return x.ambiguous(n % 7);
            case 5:
                return x.from(string);
            case 6:
                return x.begins(string) ? 1 : 0;
            case 7:
                return x.first(4 + n % 8);
            case 8:
                return x.follow(4 + n % 8);
            default:
                return x.look(n % 7);
        }
    }

    private void refusalsCount() {
        TreeCount x = grammar("4>44 4>1");
        for (int calls = 2; calls < MOST_CALLS - 1; calls++) {
            int wrong = calls;
            check.dueThrow("call " + (calls + 1), Check.NO_ELEMENT, () -> x.drop(wrong));
        }
        check.due("call 512", 429, x.trees(4, 0x5555));
    }
}
