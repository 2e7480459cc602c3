import java.util.Random;

/** Runs of 512 calls by chance, on a new object and on the plain one side by side. */
public final class TestRandomRuns {
    private static final int RUNS = 500;
    private static final int CALLS = 512;

    private final Due due;
    private final Random random;
    private final int run;
    private final LeastAlone x = new LeastAlone();
    private final Plain y = new Plain();
    private final int big;
    private int calls = 0;

    private TestRandomRuns(Due due, int run) {
        this.due = due;
        this.run = run;
        random = new Random(run);
        // Few runs have the largest inns: the plain one is slow there.
        big = run % 10 == 0 ? 6 : run % 3 == 0 ? 5 : 4;
    }

    public static void main(String[] args) {
        Due due = new Due();
        int runs = args.length > 0 ? Integer.parseInt(args[0]) : RUNS;
        for (int run = 0; run < runs; run++) {
            new TestRandomRuns(due, run).play();
        }
        due.end("TestRandomRuns");
    }

    private void play() {
        if (run % 5 != 4) {
            check("inn", size(), size(), 0);
        }
        while (calls < CALLS) {
            choose();
        }
    }

    private int size() {
        return 2 + random.nextInt(big - 1);
    }

    private int from(int least, int most) {
        return least + random.nextInt(most - least + 1);
    }

    private int man() {
        return random.nextInt(12) == 0 ? from(-2, 8) : random.nextInt(y.told(1));
    }

    private int number() {
        return random.nextInt(12) == 0 ? from(-2, 8) : 1 + random.nextInt(y.told(2));
    }

    private int bit() {
        return random.nextInt(15) == 0 ? from(-2, 3) : random.nextInt(2);
    }

    private int set() {
        return random.nextInt(15) == 0 ? from(-3, 70) : 1 + random.nextInt((1 << y.told(1)) - 1);
    }

    private void writePad() {
        check("wipe", 0, 0, 0);
        int length = random.nextInt(6) == 0 ? from(0, 8) : y.told(1);
        boolean open = random.nextBoolean();
        for (int i = 0; i < length; i++) {
            int sign = random.nextInt(40) == 0 ? from(30, 128) : '0' + from(random.nextInt(2), y.told(2));
            check("say", open && random.nextInt(3) == 0 ? '?' : sign, 0, 0);
        }
        check("fault", 0, 0, 0);
    }

    private void choose() {
        switch (random.nextInt(33)) {
            case 0 -> {
                if (random.nextInt(4) == 0) {
                    check("inn", random.nextInt(8) == 0 ? from(0, 8) : size(), random.nextInt(8) == 0 ? from(0, 8) : size(), 0);
                }
            }
            case 1 -> check("rule", random.nextInt(10) == 0 ? from(-2, 6) : random.nextInt(4), 0, 0);
            case 2 -> check("say", random.nextInt(5) == 0 ? from(30, 130) : '0' + random.nextInt(7), 0, 0);
            case 3, 4 -> writePad();
            case 5 -> check("fault", 0, 0, 0);
            case 6, 7 -> check("wins", bit(), 0, 0);
            case 8, 9 -> check("weight", number(), random.nextInt(4) == 0 ? from(-1, 12) : random.nextInt(4), 0);
            case 10 -> check("fool", man(), random.nextInt(2) == 0 ? 0 : number(), 0);
            case 11 -> check("worth", man(), number(), bit());
            case 12 -> check("best", man(), 0, 0);
            case 13 -> check("mean", man(), bit(), bit());
            case 14 -> check("nobody", bit(), 0, 0);
            case 15 -> check("rest", from(0, 9), number(), 0);
            case 16 -> check("gap", from(0, 9), bit(), 0);
            case 17 -> check("friends", set(), man(), 0);
            case 18 -> check("league", set(), bit(), 0);
            case 19 -> check("spy", man(), 0, 0);
            case 20 -> check("spied", man(), bit(), 0);
            case 21 -> check("steps", from(0, 21), 0, 0);
            case 22 -> check("late", man(), bit(), 0);
            case 23 -> check("prize", from(0, 1000), random.nextInt(3) == 0 ? 0 : from(-1, 101), bit());
            case 24 -> check("seen", random.nextInt(9) == 0 ? from(-1, 4) : random.nextInt(3), man(), number());
            case 25 -> check("seen", 1, man(), number());
            case 26 -> check("forget", 0, 0, 0);
            case 27 -> check("fits", from(-2, 7), 0, 0);
            case 28 -> check("could", man(), 0, 0);
            case 29 -> check("year", random.nextInt(9) == 0 ? from(-1, 10001) : from(0, 9999), from(0, 100), random.nextInt(2) == 0 ? -1 : man());
            case 30 -> check("image", bit(), 0, 0);
            case 31 -> check("restore", bit(), 0, 0);
            default -> check("told", from(-1, 27), 0, 0);
        }
    }

    private void check(String call, int a, int b, int c) {
        // What an object answers after its last call is free.
        if (calls == CALLS) {
            return;
        }
        calls++;
        compare(call, wild(a), wild(b), wild(c));
    }

    /** Now and then any number at all. */
    private int wild(int v) {
        int chance = random.nextInt(300);
        return chance == 0 ? random.nextInt() : chance == 1 ? Integer.MIN_VALUE : chance == 2 ? Integer.MAX_VALUE : v;
    }

    private void compare(String call, int a, int b, int c) {
        due.is("run " + run + ": " + Calls.text(call, a, b, c), Calls.ask(x, call, a, b, c), Calls.ask(y, call, a, b, c));
    }
}
