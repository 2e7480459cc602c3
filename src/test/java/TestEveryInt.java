/** Each call with every edge at every place, beside the plain one: at three inns, none of which is changed in between. */
public final class TestEveryInt {
    private static final Due DUE = new Due();
    /** An object is made anew, before it has had all the calls that it is used for. */
    private static final int CALLS = 450;

    private final int inn;
    private LeastAlone x;
    private Plain y;
    private int calls;

    private TestEveryInt(int inn) {
        this.inn = inn;
        open();
    }

    public static void main(String[] args) {
        for (int inn = 0; inn < 3; inn++) {
            TestEveryInt test = new TestEveryInt(inn);
            for (String call : Calls.NAMES) {
                DUE.about("inn " + inn);
                test.askAll(call);
            }
        }
        DUE.end("TestEveryInt");
    }

    private void askAll(String call) {
        int arguments = Calls.arguments(call);
        int[] once = {0};
        for (int a : arguments > 0 ? Inns.EDGES : once) {
            for (int b : arguments > 1 ? Inns.EDGES : once) {
                for (int c : arguments > 2 ? Inns.EDGES : once) {
                    compare(call, a, b, c);
                }
            }
        }
    }

    private void compare(String call, int a, int b, int c) {
        long want = Calls.ask(y, call, a, b, c);
        DUE.is(Calls.text(call, a, b, c), Calls.ask(x, call, a, b, c), want);
        calls++;
        boolean refused = want < 0 && want != LeastAlone.NONE;
        if (calls >= CALLS || changes(call) && !refused) {
            open();
        }
    }

    private static boolean changes(String call) {
        return switch (call) {
            case "inn", "rule", "say", "wipe", "weight", "fool", "seen", "forget", "image", "restore" -> true;
            default -> false;
        };
    }

    private void open() {
        x = new LeastAlone();
        y = new Plain();
        calls = 0;
        if (inn == 1) {
            both("inn", 2, 6, 0);
            both("rule", 3, 0, 0);
            both("fool", 1, 6, 0);
            both("weight", 1, 7, 0);
            both("seen", 0, 1, 6);
            both("image", 1, 0, 0);
            both("say", '?', 0, 0);
            both("say", '0', 0, 0);
        } else if (inn == 2) {
            both("inn", 5, 2, 0);
            both("rule", 2, 0, 0);
            both("weight", 2, 0, 0);
            for (int i = 0; i < 6; i++) {
                both("seen", 1, 4, 2);
            }
            for (int i = 0; i < 48; i++) {
                both("say", '1', 0, 0);
            }
        }
    }

    private void both(String call, int a, int b, int c) {
        calls++;
        DUE.is("at first: " + Calls.text(call, a, b, c), Calls.ask(x, call, a, b, c), Calls.ask(y, call, a, b, c));
    }
}
