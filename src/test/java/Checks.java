/** Compares answers with those that are due, prints the wrong ones, and ends a test's main method. */
final class Checks {
    /** A call whose answer, or the exception that it throws, is looked at. */
    interface Call {
        Object answer();
    }

    static final String INDEX = "throws.IndexOutOfBoundsException";
    static final String ARGUMENT = "throws.IllegalArgumentException";
    static final String STATE = "throws.IllegalStateException";

    private final String test;
    private String sentence = "";
    private int made = 0;
    private int wrong = 0;

    Checks(String test) {
        this.test = test;
    }

    /** The very class counts: an ArrayIndexOutOfBoundsException is the machine's, not the document's. */
    static String outcome(Call call) {
        try {
            return String.valueOf(call.answer());
        } catch (RuntimeException e) {
            return "throws." + e.getClass().getSimpleName();
        }
    }

    /** The sentence of the document that the next checks look at. */
    void of(String sentence) {
        this.sentence = " [" + sentence + "]";
    }

    void due(String what, Object want, Call call) {
        made++;
        String got = outcome(call);
        if (!got.equals(String.valueOf(want))) {
            wrong++;
            System.out.println(test + sentence + ": " + what + " answered " + got + ", due is " + want);
        }
    }

    void end() {
        System.out.println(test + ": " + made + " checks, " + wrong + " wrong");
        if (wrong != 0 || made == 0) {
            System.exit(1);
        }
    }
}
