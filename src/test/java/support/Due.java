/** Counts answers that are not as due, and tells each. */
final class Due {
    private int wrong = 0;
    private int calls = 0;
    private String sentence = "";

    /** What the document says, that the next answers hold to. */
    void about(String newSentence) {
        sentence = newSentence + ": ";
    }

    void is(String call, long got, long want) {
        calls++;
        if (got != want) {
            wrong++;
            System.out.println(sentence + call + " answered " + got + ", due is " + want);
        }
    }

    /** A fraction by its two parts. */
    void parts(String call, long upper, long lower, long wantUpper, long wantLower) {
        is(call + " upper", upper, wantUpper);
        is(call + " lower", lower, wantLower);
    }

    void holds(String what, boolean so) {
        is(what, so ? 1 : 0, 1);
    }

    void end(String name) {
        System.out.println(name + ": " + calls + " answers, " + wrong + " not as due");
        if (wrong != 0 || calls == 0) {
            System.exit(1);
        }
    }
}
