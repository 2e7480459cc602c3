/** Objects at a given inn, and slips on their pads. */
final class Inns {
    /** One number at each side of every bound of the document, and the ends of int. */
    static final int[] EDGES = {
        Integer.MIN_VALUE, Integer.MIN_VALUE + 1, -65537, -256, -8, -7, -6, -5, -4, -3, -2, -1, 0, 1, 2, 3, 4, 5, 6, 7, 8,
        9, 10, 11, 12, 13, 15, 16, 17, 19, 20, 21, 25, 26, 31, 32, 33, 34, 47, 48, 49, 50, 54, 55, 62, 63, 64, 65, 98, 99,
        100, 101, 125, 126, 127, 128, 255, 256, 257, 998, 999, 1000, 9998, 9999, 10000, 65536, 65537, 1 << 30,
        Integer.MAX_VALUE - 1, Integer.MAX_VALUE
    };

    private Inns() {
    }

    static LeastAlone at(int n, int m, int law) {
        LeastAlone x = new LeastAlone();
        x.inn(n, m);
        x.rule(law);
        return x;
    }

    static void write(LeastAlone x, String slips) {
        x.wipe();
        for (char sign : slips.toCharArray()) {
            x.say(sign);
        }
    }

    /** Sets all weights, of a sum from 1 to 12, by way of sums that are not refused. */
    static void weigh(LeastAlone x, int... weights) {
        for (int number = 1; number <= weights.length; number++) {
            boolean lower = weights[number - 1] < x.told(10 + number);
            if (lower && x.weight(number, weights[number - 1]) == LeastAlone.OUTSIDE) {
                // The last one that has some keeps 1 until another one has some.
                x.weight(number, 1);
            }
        }
        for (int time = 0; time < 2; time++) {
            for (int number = 1; number <= weights.length; number++) {
                x.weight(number, weights[number - 1]);
            }
        }
        for (int number = 1; number <= weights.length; number++) {
            if (x.told(10 + number) != weights[number - 1]) {
                throw new IllegalStateException("weights are not set");
            }
        }
    }

    static boolean isBetween(int v, int least, int most) {
        return v >= least && v <= most;
    }
}
