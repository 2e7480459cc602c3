/** Promises 8 to 15: weight, fool, worth, best, mean, nobody, rest, gap. */
public final class TestChances {
    private static final Due DUE = new Due();
    private static final long LOST = LeastAlone.LOST;

    public static void main(String[] args) {
        weight();
        fool();
        worthOfTwo();
        worthOfThree();
        worthByTheMiddle();
        worthByPairs();
        worthWithFools();
        best();
        extremes();
        refusals();
        rest();
        restAfterChanges();
        DUE.end("TestChances");
    }

    private static void worthIs(LeastAlone x, int man, int number, long upper, long lower) {
        DUE.parts("worth(" + man + ", " + number + ")", x.worth(man, number, 0), x.worth(man, number, 1), upper, lower);
    }

    private static void meanIs(LeastAlone x, int man, int what, long upper, long lower) {
        DUE.parts("mean(" + man + ", " + what + ")", x.mean(man, what, 0), x.mean(man, what, 1), upper, lower);
    }

    private static void nobodyIs(LeastAlone x, long upper, long lower) {
        DUE.parts("nobody", x.nobody(0), x.nobody(1), upper, lower);
    }

    private static void weight() {
        LeastAlone x = new LeastAlone();
        DUE.is("weight(1, 8)", x.weight(1, 8), 1);
        DUE.is("weight(2, 2): 13 in all", x.weight(2, 2), LeastAlone.OUTSIDE);
        DUE.is("told(12)", x.told(12), 1);
        DUE.is("weight(2, 0)", x.weight(2, 0), 1);
        DUE.is("weight(1, 9)", x.weight(1, 9), 8);
        DUE.is("weight(1, 10)", x.weight(1, 10), LeastAlone.OUTSIDE);
        DUE.is("weight(1, -1)", x.weight(1, -1), LeastAlone.OUTSIDE);
        DUE.is("weight(1, max)", x.weight(1, Integer.MAX_VALUE), LeastAlone.OUTSIDE);
        DUE.is("weight(0, 1)", x.weight(0, 1), LeastAlone.UNKNOWN);
        DUE.is("weight(6, 10)", x.weight(6, 10), LeastAlone.UNKNOWN);
        DUE.is("weight(-1, 1)", x.weight(-1, 1), LeastAlone.UNKNOWN);
        x.weight(3, 0);
        x.weight(4, 0);
        x.weight(5, 0);
        DUE.is("weight(1, 0): nothing in all", x.weight(1, 0), LeastAlone.OUTSIDE);
        DUE.is("told(11)", x.told(11), 9);
        DUE.is("weight(1, 10) alone", x.weight(1, 10), LeastAlone.OUTSIDE);
        DUE.is("weight(1, 1)", x.weight(1, 1), 9);
        DUE.is("weight(5, 9)", x.weight(5, 9), 0);
    }

    private static void fool() {
        LeastAlone x = new LeastAlone();
        DUE.is("fool(3, 5)", x.fool(3, 5), 0);
        DUE.is("fool(3, 1)", x.fool(3, 1), 5);
        DUE.is("fool(3, 6)", x.fool(3, 6), LeastAlone.UNKNOWN);
        DUE.is("fool(3, -1)", x.fool(3, -1), LeastAlone.UNKNOWN);
        DUE.is("fool(4, 1)", x.fool(4, 1), LeastAlone.UNKNOWN);
        DUE.is("fool(-1, 1)", x.fool(-1, 1), LeastAlone.UNKNOWN);
        DUE.is("told(23)", x.told(23), 1);
        DUE.is("fool(3, 0)", x.fool(3, 0), 1);
        DUE.is("fool(3, 0) again", x.fool(3, 0), 0);
    }

    private static void worthOfTwo() {
        LeastAlone x = Inns.at(2, 2, 0);
        x.weight(1, 3);
        worthIs(x, 0, 1, 1, 4);
        worthIs(x, 0, 2, 0, 1);
        meanIs(x, 0, 0, 3, 16);
        meanIs(x, 0, 1, 1, 16);
        nobodyIs(x, 5, 8);
        x.rule(1);
        worthIs(x, 1, 1, 0, 1);
        worthIs(x, 1, 2, 3, 4);
        DUE.is("best(1)", x.best(1), 2);
        meanIs(x, 1, 0, 3, 16);
        meanIs(x, 1, 1, 9, 16);
    }

    private static void worthOfThree() {
        LeastAlone x = Inns.at(3, 2, 0);
        for (int man = 0; man < 3; man++) {
            worthIs(x, man, 1, 1, 4);
            worthIs(x, man, 2, 1, 4);
            DUE.is("best(" + man + ")", x.best(man), 1);
            meanIs(x, man, 0, 1, 4);
            meanIs(x, man, 1, 0, 1);
        }
        nobodyIs(x, 1, 4);
    }

    private static void worthByTheMiddle() {
        LeastAlone x = Inns.at(3, 3, 2);
        worthIs(x, 0, 1, 2, 9);
        worthIs(x, 0, 2, 4, 9);
        worthIs(x, 0, 3, 2, 9);
        DUE.is("best(0) by the middle", x.best(0), 2);
        meanIs(x, 0, 0, 8, 27);
        meanIs(x, 0, 1, 4, 27);
        nobodyIs(x, 1, 9);
    }

    private static void worthByPairs() {
        LeastAlone x = Inns.at(3, 2, 3);
        worthIs(x, 0, 1, 1, 4);
        worthIs(x, 0, 2, 1, 4);
        meanIs(x, 0, 0, 1, 4);
        nobodyIs(x, 1, 4);
        x.weight(1, 2);
        // Just one of two others writes 1: 4 of 9 ways, half of each; the same for 2.
        worthIs(x, 2, 1, 2, 9);
        worthIs(x, 2, 2, 2, 9);
        nobodyIs(x, 1, 3);
    }

    private static void worthWithFools() {
        LeastAlone x = Inns.at(3, 2, 0);
        x.fool(1, 1);
        worthIs(x, 0, 1, 0, 1);
        worthIs(x, 0, 2, 1, 2);
        DUE.is("best(0) with a fool", x.best(0), 2);
        meanIs(x, 0, 0, 1, 4);
        meanIs(x, 0, 1, 1, 4);
        // The fool's own number is not his best, nor his mean: he is asked as one who is none.
        worthIs(x, 1, 1, 1, 4);
        worthIs(x, 1, 2, 1, 4);
        meanIs(x, 1, 0, 1, 4);
        nobodyIs(x, 1, 4);
        x.fool(0, 1);
        x.fool(2, 1);
        nobodyIs(x, 1, 1);
        x.fool(2, 2);
        nobodyIs(x, 0, 1);
        x.weight(2, 0);
        worthIs(x, 0, 2, 0, 1);
    }

    private static void best() {
        LeastAlone x = Inns.at(2, 3, 1);
        DUE.is("best by the greatest", x.best(0), 3);
        x.rule(0);
        DUE.is("best by the least", x.best(1), 1);
        x.rule(3);
        DUE.is("best by pairs, the least of several", x.best(0), 1);
        x.weight(2, 2);
        DUE.is("best by pairs", x.best(0), 2);
    }

    private static void extremes() {
        LeastAlone x = Inns.at(6, 6, 0);
        x.weight(1, 7);
        // Five others, none of them with number 1: five of twelve each.
        worthIs(x, 0, 1, 3125, 248832);
        x.weight(1, 0);
        worthIs(x, 5, 1, 1, 1);
        DUE.is("best of six", x.best(5), 1);
        x = Inns.at(6, 2, 0);
        // Of 64 rows those with one alone, of either number: twice six.
        nobodyIs(x, 13, 16);
        x.rule(3);
        // Those with two of either number: twice fifteen.
        nobodyIs(x, 17, 32);
        x = Inns.at(6, 6, 3);
        // No number just twice: 6, 51, 411, 33, 3111, 111111 in 6 + 180 + 1800 + 300 + 7200 + 720 of 46656 rows.
        nobodyIs(x, 7, 32);
    }

    private static void refusals() {
        LeastAlone x = new LeastAlone();
        DUE.is("worth(-1, 1, 0)", x.worth(-1, 1, 0), LOST - 1);
        DUE.is("worth(4, 9, 9)", x.worth(4, 9, 9), LOST - 1);
        DUE.is("worth(0, 6, 2)", x.worth(0, 6, 2), LOST - 1);
        DUE.is("worth(0, 1, 2)", x.worth(0, 1, 2), LOST - 2);
        DUE.is("worth(0, 1, -1)", x.worth(0, 1, -1), LOST - 2);
        DUE.is("best(-1)", x.best(-1), LeastAlone.UNKNOWN);
        DUE.is("best(4)", x.best(4), LeastAlone.UNKNOWN);
        DUE.is("mean(4, 2, 2)", x.mean(4, 2, 2), LOST - 1);
        DUE.is("mean(0, 2, 0)", x.mean(0, 2, 0), LOST - 2);
        DUE.is("mean(0, -1, 0)", x.mean(0, -1, 0), LOST - 2);
        DUE.is("mean(0, 0, 2)", x.mean(0, 0, 2), LOST - 2);
        DUE.is("nobody(-1)", x.nobody(-1), LOST - 2);
        DUE.is("nobody(2)", x.nobody(2), LOST - 2);
        DUE.is("rest(9, 6)", x.rest(9, 6), LeastAlone.UNKNOWN);
        DUE.is("rest(9, 5)", x.rest(9, 5), LeastAlone.OUTSIDE);
        DUE.is("rest(0, 1)", x.rest(0, 1), LeastAlone.OUTSIDE);
        DUE.is("rest(1, 0)", x.rest(1, 0), LeastAlone.UNKNOWN);
        DUE.is("gap(9, 0)", x.gap(9, 0), LOST - 2);
        DUE.is("gap(0, 0)", x.gap(0, 0), LOST - 2);
        DUE.is("gap(1, 2)", x.gap(1, 2), LOST - 2);
        DUE.is("gap(1, -1)", x.gap(1, -1), LOST - 2);
    }

    private static void restIs(LeastAlone x, int t, int... weights) {
        for (int number = 1; number <= weights.length; number++) {
            DUE.is("rest(" + t + ", " + number + ")", x.rest(t, number), weights[number - 1]);
        }
    }

    private static void gapIs(LeastAlone x, int t, long upper, long lower) {
        DUE.parts("gap(" + t + ")", x.gap(t, 0), x.gap(t, 1), upper, lower);
    }

    private static void rest() {
        LeastAlone x = Inns.at(2, 2, 0);
        restIs(x, 1, 1, 0);
        gapIs(x, 1, 0, 1);
        x.rule(1);
        restIs(x, 1, 0, 1);
        restIs(x, 8, 0, 8);
        gapIs(x, 8, 0, 1);
        x.rule(3);
        restIs(x, 2, 0, 2);
        x = Inns.at(3, 3, 0);
        restIs(x, 4, 2, 1, 1);
        gapIs(x, 4, 1, 32);
        x = Inns.at(3, 2, 0);
        // With all on one number the other one wins for sure; by halves no number is better.
        restIs(x, 2, 1, 1);
        gapIs(x, 2, 0, 1);
        restIs(x, 1, 0, 1);
        gapIs(x, 1, 1, 1);
    }

    private static void restAfterChanges() {
        LeastAlone x = Inns.at(3, 3, 0);
        restIs(x, 4, 2, 1, 1);
        x.fool(1, 3);
        x.weight(3, 5);
        restIs(x, 4, 2, 1, 1);
        gapIs(x, 4, 1, 32);
        DUE.is("rest leaves the weights", x.told(13), 5);
        x.rule(1);
        restIs(x, 4, 1, 1, 2);
        x.rule(2);
        restIs(x, 4, 1, 2, 1);
        x.image(0);
        x.inn(2, 2);
        x.rule(0);
        restIs(x, 4, 4, 0);
        x.restore(0);
        restIs(x, 4, 1, 2, 1);
        gapIs(x, 4, 1, 32);
        x.inn(3, 2);
        restIs(x, 4, 2, 2);
    }
}
