/** An object is used for at most 512 calls: the 512th is answered as the document says, whichever call it is. */
public final class TestLastCall {
    private static final Due DUE = new Due();
    private static final int LAST = 512;

    public static void main(String[] args) {
        for (String call : Calls.NAMES) {
            DUE.about("the 512th call");
            lastOfAll(call, 0, 1, 1);
            lastOfAll(call, 1, 0, 0);
            lastOfAll(call, 3, 2, 1);
            lastOfAll(call, -1, -1, -1);
            lastOfTheSame(call);
        }
        fullPadAtLast();
        DUE.end("TestLastCall");
    }

    /** All calls by turns, which change all that can be changed, and one call at last. */
    private static void lastOfAll(String call, int a, int b, int c) {
        LeastAlone x = new LeastAlone();
        Plain y = new Plain();
        for (int i = 1; i < LAST; i++) {
            both(x, y, i, Calls.NAMES[i % Calls.NAMES.length], i / 29 % 5, 1 + i / 7 % 3, i % 3);
        }
        both(x, y, LAST, call, a, b, c);
    }

    private static void lastOfTheSame(String call) {
        LeastAlone x = new LeastAlone();
        Plain y = new Plain();
        for (int i = 1; i <= LAST; i++) {
            both(x, y, i, call, 1 + i % 2, i % 2, i % 2);
        }
    }

    private static void both(LeastAlone x, Plain y, int i, String call, int a, int b, int c) {
        DUE.is("call " + i + ": " + Calls.text(call, a, b, c), Calls.ask(x, call, a, b, c), Calls.ask(y, call, a, b, c));
    }

    private static void fullPadAtLast() {
        LeastAlone x = new LeastAlone();
        for (int i = 1; i <= LAST; i++) {
            DUE.is("say, call " + i, x.say('1'), i <= 48 ? i : LeastAlone.FULL);
        }
        x = new LeastAlone();
        for (int i = 1; i <= LAST; i++) {
            DUE.is("seen, call " + i, x.seen(2, i, i), i <= 6 ? i : LeastAlone.FULL);
        }
    }
}
