/** Promise 21 at every inn and by every law, without fools, with each one fool, and with many pairs of them. */
public final class TestLate {
    private static final Due DUE = new Due();

    public static void main(String[] args) {
        for (int n = 2; n <= 6; n++) {
            for (int m = 2; m <= 6; m++) {
                for (int law = 0; law <= 3; law++) {
                    compareFools(n, m, law);
                }
            }
        }
        DUE.end("TestLate");
    }

    private static void compareFools(int n, int m, int law) {
        compare(n, m, law, 0, 0, 0, 0);
        for (int man = 0; man < n; man++) {
            for (int number = 1; number <= m; number++) {
                compare(n, m, law, man, number, man, number);
                for (int other = 0; other < man; other++) {
                    compare(n, m, law, man, number, other, 1 + (number + other) % m);
                }
            }
        }
    }

    private static void compare(int n, int m, int law, int man, int number, int other, int second) {
        LeastAlone x = new LeastAlone();
        Plain y = new Plain();
        x.inn(n, m);
        y.inn(n, m);
        x.rule(law);
        y.rule(law);
        x.fool(man, number);
        y.fool(man, number);
        x.fool(other, second);
        y.fool(other, second);
        String where = "inn " + n + " " + m + ", law " + law + ", fools " + man + " " + number + ", " + other + " " + second;
        for (int i = 0; i < n; i++) {
            DUE.is(where + ": late(" + i + ", 0)", x.late(i, 0), y.late(i, 0));
        }
        DUE.is(where + ": late(0, 1)", x.late(0, 1), y.late(0, 1));
    }
}
