/** Counts and prints the answers that are not as due. */
final class Check {
    /** A call whose answer, or whose exception, is looked at. */
    interface Call {
        long answer();
    }

    static final String ARGUMENT = "IllegalArgumentException";
    static final String STATE = "IllegalStateException";
    static final String NO_ELEMENT = "NoSuchElementException";

    private String sentence = "";
    private int wrong;
    private int looked;

    /** The sentence of the document that the answers looked at from here on belong to. */
    void sentence(String where, String words) {
        sentence = where + ", '" + words + "': ";
    }

    void due(String what, long want, long got) {
        looked++;
        if (got != want) {
            wrong++;
            System.out.println(sentence + what + " answered " + got + ", due is " + want);
        }
    }

    void due(String what, boolean want, boolean got) {
        due(what, want ? 1 : 0, got ? 1 : 0);
    }

    void dueThrow(String what, String want, Call call) {
        looked++;
        String got = thrownBy(call);
        if (!got.equals(want)) {
            wrong++;
            System.out.println(sentence + what + " threw " + got + ", due is " + want);
        }
    }

    private static String thrownBy(Call call) {
        try {
            return "nothing, but answered " + call.answer();
        } catch (RuntimeException e) {
            return e.getClass().getSimpleName();
        }
    }

    void finish() {
        System.out.println(looked + " answers looked at, " + wrong + " wrong");
        if (wrong != 0) {
            System.exit(1);
        }
    }
}
