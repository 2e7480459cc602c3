/** The edges of 'Terms', part 2, and of promises 8 to 15: one test for each sentence. */
public final class TestEdgesChances {
    private static final Due DUE = new Due();
    private static final long LOST = LeastAlone.LOST;
    private static final int UNKNOWN = LeastAlone.UNKNOWN;
    private static final int OUTSIDE = LeastAlone.OUTSIDE;

    public static void main(String[] args) {
        weightOfNumbersThatThereAre();
        weightZeroToNine();
        weightsTogetherTwelve();
        weightsTogetherOne();
        weightTellsWhatWas();
        foolUnknown();
        foolTellsWhatWas();
        worthUnknown();
        worthOutside();
        worthOfAllAndNothing();
        worthOfWeightZero();
        worthHalf();
        worthBesideFools();
        worthOfFool();
        worthAtTheLargest();
        bestUnknown();
        bestLeastOfSeveral();
        meanRefused();
        meanByHisOwnWeights();
        gapOfNothing();
        nobodyOutside();
        nobodyOfAllAndNothing();
        nobodyOfSixMen();
        restRefused();
        gapRefused();
        restOfSumOne();
        restFirstOfSeveral();
        restWithoutFools();
        restAtEveryInn();
        restByWhatIsNow();
        restAfterAnother();
        DUE.end("TestEdgesChances");
    }

    private static void worthIs(LeastAlone x, int man, int number, long upper, long lower) {
        DUE.parts("worth(" + man + ", " + number + ")", x.worth(man, number, 0), x.worth(man, number, 1), upper, lower);
    }

    private static void meanIs(LeastAlone x, int man, int what, long upper, long lower) {
        DUE.parts("mean(" + man + ", " + what + ")", x.mean(man, what, 0), x.mean(man, what, 1), upper, lower);
    }

    private static void nobodyIs(LeastAlone x, long upper, long lower) {
        DUE.parts("nobody", x.nobody(0), x.nobody(1), upper, lower);
    }

    private static void weightOfNumbersThatThereAre() {
        DUE.about("weight: UNKNOWN");
        for (int m = 2; m <= 6; m++) {
            for (int number : Inns.EDGES) {
                LeastAlone x = Inns.at(3, m, 0);
                boolean is = Inns.isBetween(number, 1, m);
                DUE.is("of " + m + ": weight(" + number + ", 3)", x.weight(number, 3), is ? 1 : UNKNOWN);
                DUE.is("of " + m + ": weight(" + number + ", 99)", x.weight(number, 99), is ? OUTSIDE : UNKNOWN);
                for (int i = 1; i <= m; i++) {
                    DUE.is("told(" + (10 + i) + ") after weight(" + number + ", 3)", x.told(10 + i), i == number ? 3 : 1);
                }
            }
        }
    }

    private static void weightZeroToNine() {
        DUE.about("WEIGHTS 0 to 9");
        for (int v : Inns.EDGES) {
            LeastAlone x = Inns.at(3, 2, 0);
            boolean may = Inns.isBetween(v, 0, 9);
            DUE.is("weight(2, " + v + ")", x.weight(2, v), may ? 1 : OUTSIDE);
            DUE.is("told(12) after weight(2, " + v + ")", x.told(12), may ? v : 1);
        }
    }

    private static void weightsTogetherTwelve() {
        DUE.about("all together 1 to 12");
        for (int others = 3; others <= 9; others++) {
            for (int v = 0; v <= 9; v++) {
                LeastAlone x = Inns.at(3, 2, 0);
                x.weight(1, others);
                boolean may = others + v <= 12;
                DUE.is(others + " and " + v, x.weight(2, v), may ? 1 : OUTSIDE);
                DUE.is(others + " and " + v + " told", x.told(12), may ? v : 1);
            }
        }
        LeastAlone x = Inns.at(2, 6, 0);
        DUE.is("weight(1, 7): 12 by six", x.weight(1, 7), 1);
        DUE.is("weight(1, 8): 13 by six", x.weight(1, 8), OUTSIDE);
        DUE.is("weight(6, 2): 13 by six", x.weight(6, 2), OUTSIDE);
        DUE.is("weight(1, 7): the same again", x.weight(1, 7), 7);
        DUE.is("weight(6, 1): the same again", x.weight(6, 1), 1);
        DUE.is("weight(6, 0): 11", x.weight(6, 0), 1);
        DUE.is("weight(1, 8): 12", x.weight(1, 8), 7);
        DUE.is("weight(6, 1): 13", x.weight(6, 1), OUTSIDE);
    }

    private static void weightsTogetherOne() {
        DUE.about("all together at least 1");
        for (int last = 1; last <= 6; last++) {
            LeastAlone x = Inns.at(2, 6, 0);
            for (int number = 1; number <= 6; number++) {
                if (number != last) {
                    DUE.is("weight(" + number + ", 0)", x.weight(number, 0), 1);
                }
            }
            DUE.is("weight(" + last + ", 0): nothing together", x.weight(last, 0), OUTSIDE);
            DUE.is("told of " + last, x.told(10 + last), 1);
            DUE.is("weight(" + last + ", 9): alone", x.weight(last, 9), 1);
            DUE.is("weight(" + last + ", 0): nothing together", x.weight(last, 0), OUTSIDE);
        }
    }

    private static void weightTellsWhatWas() {
        DUE.about("WEIGHT of a NUMBER: which it was");
        LeastAlone x = Inns.at(2, 2, 0);
        int was = 1;
        for (int v : new int[] {0, 9, 5, 5, 0, 1}) {
            DUE.is("weight(2, " + v + ")", x.weight(2, v), was);
            DUE.is("weight(2, 10) between", x.weight(2, 10), OUTSIDE);
            was = v;
        }
        DUE.is("weight(1, 1): the other one stayed", x.weight(1, 1), 1);
    }

    private static void foolUnknown() {
        DUE.about("fool: UNKNOWN: both");
        for (int v : Inns.EDGES) {
            LeastAlone x = Inns.at(3, 5, 0);
            boolean isMan = Inns.isBetween(v, 0, 2);
            DUE.is("fool(" + v + ", 5)", x.fool(v, 5), isMan ? 0 : UNKNOWN);
            DUE.is("fool(" + v + ", 0)", x.fool(v, 0), isMan ? 5 : UNKNOWN);
            DUE.is("fool(" + v + ", 6)", x.fool(v, 6), UNKNOWN);
            boolean isNumber = Inns.isBetween(v, 0, 5);
            x.fool(1, 4);
            DUE.is("fool(1, " + v + ")", x.fool(1, v), isNumber ? 4 : UNKNOWN);
            DUE.is("told(21) after fool(1, " + v + ")", x.told(21), isNumber ? v : 4);
        }
    }

    private static void foolTellsWhatWas() {
        DUE.about("a FOOL with a NUMBER: which it was (0)");
        LeastAlone x = Inns.at(6, 6, 0);
        for (int man = 0; man < 6; man++) {
            DUE.is("at first", x.fool(man, 6 - man), 0);
        }
        for (int man = 0; man < 6; man++) {
            DUE.is("then", x.fool(man, 0), 6 - man);
            DUE.is("then none", x.fool(man, man + 1), 0);
            DUE.is("told", x.told(20 + man), man + 1);
        }
    }

    private static void worthUnknown() {
        DUE.about("worth: UNKNOWN");
        for (int n = 2; n <= 6; n += 2) {
            for (int v : Inns.EDGES) {
                LeastAlone x = Inns.at(n, 2, 0);
                // The others write 1: his 2 is alone, his 1 is not, but among two.
                x.weight(2, 0);
                DUE.is("worth(" + v + ", 2, 1)", x.worth(v, 2, 1), Inns.isBetween(v, 0, n - 1) ? 1 : LOST + UNKNOWN);
                DUE.is("worth(0, " + v + ", 1)", x.worth(0, v, 1), Inns.isBetween(v, 1, 2) ? 1 : LOST + UNKNOWN);
                DUE.is("worth(" + v + ", 3, 2)", x.worth(v, 3, 2), LOST + UNKNOWN);
            }
        }
    }

    private static void worthOutside() {
        DUE.about("worth: OUTSIDE: part 0 or 1");
        LeastAlone x = Inns.at(3, 2, 0);
        for (int v : Inns.EDGES) {
            DUE.is("worth(0, 1, " + v + ")", x.worth(0, 1, v), v == 0 ? 1 : v == 1 ? 4 : LOST + OUTSIDE);
        }
    }

    private static void worthOfAllAndNothing() {
        DUE.about("a chance of all is 1 by 1, of nothing 0 by 1");
        for (int n = 3; n <= 6; n++) {
            for (int law = 0; law <= 2; law++) {
                LeastAlone x = Inns.at(n, 3, law);
                Inns.weigh(x, 0, 5, 0);
                worthIs(x, 0, 1, 1, 1);
                worthIs(x, n - 1, 2, 0, 1);
                worthIs(x, 0, 3, 1, 1);
            }
        }
    }

    private static void worthOfWeightZero() {
        DUE.about("WORTH if he writes it, of a NUMBER whose WEIGHT is 0 too");
        LeastAlone x = Inns.at(2, 3, 0);
        Inns.weigh(x, 0, 3, 3);
        worthIs(x, 0, 1, 1, 1);
        worthIs(x, 0, 2, 1, 2);
        worthIs(x, 0, 3, 0, 1);
        DUE.is("best(0)", x.best(0), 1);
    }

    private static void worthHalf() {
        DUE.about("half counts half");
        LeastAlone x = Inns.at(2, 2, 3);
        worthIs(x, 0, 1, 1, 4);
        x.weight(2, 0);
        worthIs(x, 0, 1, 1, 2);
        worthIs(x, 1, 2, 0, 1);
        meanIs(x, 0, 0, 1, 2);
        // With the third, three write 1.
        x.inn(3, 2);
        x.weight(2, 0);
        worthIs(x, 0, 1, 0, 1);
    }

    private static void worthBesideFools() {
        DUE.about("all others by WEIGHTS, FOOLS as they do");
        LeastAlone x = Inns.at(3, 3, 0);
        x.fool(1, 1);
        x.fool(2, 1);
        worthIs(x, 0, 1, 0, 1);
        worthIs(x, 0, 2, 1, 1);
        worthIs(x, 0, 3, 1, 1);
        DUE.is("best(0): the least of both", x.best(0), 2);
        meanIs(x, 0, 0, 2, 3);
        meanIs(x, 0, 1, 1, 3);
        x.fool(2, 0);
        // Only the third writes by WEIGHTS: 2 wins, if he writes 1 or 3 beside the FOOL's 1 not.
        worthIs(x, 0, 2, 1, 3);
        worthIs(x, 0, 3, 1, 3);
        // A FOOL writes a NUMBER of WEIGHT 0, too.
        x.weight(1, 0);
        worthIs(x, 0, 1, 0, 1);
        worthIs(x, 0, 2, 0, 1);
        worthIs(x, 2, 1, 0, 1);
    }

    private static void worthOfFool() {
        DUE.about("WORTH of a NUMBER to a MAN who is a FOOL: if he writes it");
        LeastAlone x = Inns.at(2, 2, 0);
        x.fool(0, 2);
        worthIs(x, 0, 1, 1, 2);
        worthIs(x, 0, 2, 0, 1);
        DUE.is("best(0)", x.best(0), 1);
        meanIs(x, 0, 0, 1, 4);
        meanIs(x, 0, 1, 1, 4);
        worthIs(x, 1, 1, 1, 1);
    }

    private static void worthAtTheLargest() {
        DUE.about("exactly");
        LeastAlone x = Inns.at(6, 6, 0);
        Inns.weigh(x, 1, 1, 1, 1, 1, 7);
        // Five others, none of them with number 1: eleven of twelve each.
        worthIs(x, 0, 1, 161051, 248832);
        x.rule(1);
        worthIs(x, 0, 6, 3125, 248832);
        x = Inns.at(6, 2, 0);
        Inns.weigh(x, 9, 3);
        // All five others write 2: a quarter each; then 2: all five write 1.
        worthIs(x, 5, 1, 1, 1024);
        worthIs(x, 5, 2, 243, 1024);
        meanIs(x, 5, 0, 123, 2048);
        meanIs(x, 5, 1, 363, 2048);
        // 6 rows of one 2 and 6 of one 1: 6 times 3^5 and 6 times 3 of 4096.
        nobodyIs(x, 655, 1024);
    }

    private static void bestUnknown() {
        DUE.about("best: UNKNOWN");
        for (int n = 2; n <= 6; n++) {
            LeastAlone x = Inns.at(n, 2, 0);
            x.weight(2, 0);
            for (int man : Inns.EDGES) {
                int want = n == 2 ? 1 : 2;
                DUE.is("of " + n + ": best(" + man + ")", x.best(man), Inns.isBetween(man, 0, n - 1) ? want : UNKNOWN);
            }
        }
    }

    private static void bestLeastOfSeveral() {
        DUE.about("BEST: the least of several");
        LeastAlone x = Inns.at(3, 6, 0);
        x.fool(1, 1);
        x.fool(2, 2);
        // Whatever he writes, nothing comes of it.
        DUE.is("all bring nothing", x.best(0), 1);
        x.fool(2, 1);
        DUE.is("2 to 6 bring all", x.best(0), 2);
        x = Inns.at(2, 6, 3);
        DUE.is("all bring as much", x.best(0), 1);
        Inns.weigh(x, 1, 1, 2, 1, 2, 2);
        DUE.is("3, 5 and 6 bring most", x.best(1), 3);
        x.weight(6, 3);
        DUE.is("the last brings most", x.best(1), 6);
    }

    private static void meanRefused() {
        DUE.about("mean: UNKNOWN; OUTSIDE");
        LeastAlone x = Inns.at(3, 2, 0);
        for (int v : Inns.EDGES) {
            boolean isMan = Inns.isBetween(v, 0, 2);
            DUE.is("mean(" + v + ", 0, 1)", x.mean(v, 0, 1), isMan ? 4 : LOST + UNKNOWN);
            DUE.is("mean(" + v + ", 2, 2)", x.mean(v, 2, 2), isMan ? LOST + OUTSIDE : LOST + UNKNOWN);
            DUE.is("mean(0, " + v + ", 1)", x.mean(0, v, 1), v == 0 ? 4 : v == 1 ? 1 : LOST + OUTSIDE);
            DUE.is("mean(2, 0, " + v + ")", x.mean(2, 0, v), v == 0 ? 1 : v == 1 ? 4 : LOST + OUTSIDE);
            DUE.is("mean(2, 1, " + v + ")", x.mean(2, 1, v), v == 0 ? 0 : v == 1 ? 1 : LOST + OUTSIDE);
        }
    }

    private static void meanByHisOwnWeights() {
        DUE.about("MEAN: WORTHS by their WEIGHTS, together by all");
        LeastAlone x = Inns.at(2, 2, 0);
        x.fool(1, 2);
        worthIs(x, 0, 1, 1, 1);
        for (int v = 0; v <= 9; v++) {
            x.weight(1, v);
            DUE.parts("mean(0, 0) by " + v + " and 1", x.mean(0, 0, 0), x.mean(0, 0, 1), v, v + 1);
            DUE.parts("mean(0, 1) by " + v + " and 1", x.mean(0, 1, 0), x.mean(0, 1, 1), 1, v + 1);
        }
    }

    private static void gapOfNothing() {
        DUE.about("GAP: WORTH of his BEST less MEAN");
        LeastAlone x = Inns.at(2, 2, 0);
        x.weight(2, 0);
        // All write 1: he can not win by any number.
        meanIs(x, 0, 0, 0, 1);
        meanIs(x, 0, 1, 0, 1);
        x.inn(3, 2);
        x.weight(2, 0);
        meanIs(x, 0, 0, 0, 1);
        meanIs(x, 0, 1, 1, 1);
    }

    private static void nobodyOutside() {
        DUE.about("nobody: OUTSIDE: part 0 or 1");
        LeastAlone x = Inns.at(3, 2, 0);
        for (int v : Inns.EDGES) {
            DUE.is("nobody(" + v + ")", x.nobody(v), v == 0 ? 1 : v == 1 ? 4 : LOST + OUTSIDE);
        }
    }

    private static void nobodyOfAllAndNothing() {
        DUE.about("NOBODY: all by WEIGHTS, FOOLS as they do");
        for (int n = 2; n <= 6; n++) {
            for (int law = 0; law <= 3; law++) {
                LeastAlone x = Inns.at(n, 2, law);
                x.weight(1, 0);
                boolean both = n == 2 && law == 3;
                nobodyIs(x, both ? 0 : 1, 1);
                // One FOOL's 1 is alone, the others' 2 only of two MEN; by LAW 3 just two of three write 2.
                x.fool(n - 1, 1);
                nobodyIs(x, law < 3 || n == 3 ? 0 : 1, 1);
            }
        }
    }

    private static void nobodyOfSixMen() {
        DUE.about("NOBODY, exactly");
        LeastAlone x = Inns.at(6, 3, 0);
        // No number just once: 6 alone 3, 4 and 2 90, 3 and 3 60, 2 2 2 90 of 729 rows.
        nobodyIs(x, 1, 3);
        x.rule(3);
        // No number just twice: 6 alone 3, 5 and 1 36, 4 1 1 90, 3 and 3 60.
        nobodyIs(x, 7, 27);
    }

    private static void restRefused() {
        DUE.about("rest: UNKNOWN; OUTSIDE: t 1 to 8");
        LeastAlone x = Inns.at(2, 2, 0);
        for (int v : Inns.EDGES) {
            boolean isSum = Inns.isBetween(v, 1, 8);
            // All on number 1: nobody can do better.
            DUE.is("rest(" + v + ", 1)", x.rest(v, 1), isSum ? v : OUTSIDE);
            DUE.is("rest(" + v + ", 2)", x.rest(v, 2), isSum ? 0 : OUTSIDE);
            DUE.is("rest(" + v + ", 3)", x.rest(v, 3), UNKNOWN);
            DUE.is("rest(8, " + v + ")", x.rest(8, v), v == 1 ? 8 : v == 2 ? 0 : UNKNOWN);
        }
    }

    private static void gapRefused() {
        DUE.about("gap: OUTSIDE");
        LeastAlone x = Inns.at(3, 2, 0);
        for (int v : Inns.EDGES) {
            boolean isSum = Inns.isBetween(v, 1, 8);
            // Of an even sum halves are best, of one no more than all on 2.
            if (!isSum || v % 2 == 0) {
                DUE.is("gap(" + v + ", 0)", x.gap(v, 0), isSum ? 0 : LOST + OUTSIDE);
                DUE.is("gap(" + v + ", 1)", x.gap(v, 1), isSum ? 1 : LOST + OUTSIDE);
            }
            DUE.is("gap(1, " + v + ")", x.gap(1, v), v == 0 || v == 1 ? 1 : LOST + OUTSIDE);
            DUE.is("gap(9, " + v + ")", x.gap(9, v), LOST + OUTSIDE);
        }
    }

    private static void restIs(LeastAlone x, int t, int... weights) {
        for (int number = 1; number <= weights.length; number++) {
            DUE.is("rest(" + t + ", " + number + ")", x.rest(t, number), weights[number - 1]);
        }
    }

    private static void restOfSumOne() {
        DUE.about("REST by the sum 1");
        for (int n = 3; n <= 6; n++) {
            LeastAlone x = Inns.at(n, 4, 0);
            // All write one number, any other one wins for sure: the first of several has nothing of 1, 2, 3.
            restIs(x, 1, 0, 0, 0, 1);
            DUE.parts("gap(1)", x.gap(1, 0), x.gap(1, 1), 1, 1);
        }
        LeastAlone x = Inns.at(2, 4, 3);
        // Two with one number have halves, and no better one.
        restIs(x, 1, 0, 0, 0, 1);
        DUE.parts("gap(1) by pairs", x.gap(1, 0), x.gap(1, 1), 0, 1);
    }

    private static void restFirstOfSeveral() {
        DUE.about("REST: the first of several (of NUMBER 1 the least, then of 2)");
        LeastAlone x = Inns.at(2, 3, 3);
        // All on any one number have no gap, and so have equal weights.
        restIs(x, 3, 0, 0, 3);
        restIs(x, 8, 0, 0, 8);
        x = Inns.at(2, 3, 1);
        restIs(x, 5, 0, 0, 5);
        x.rule(0);
        restIs(x, 5, 5, 0, 0);
    }

    private static void restWithoutFools() {
        DUE.about("REST: without FOOLS, whatever WEIGHTS there are");
        LeastAlone x = Inns.at(3, 2, 0);
        Inns.weigh(x, 9, 0);
        x.fool(0, 1);
        x.fool(1, 2);
        x.fool(2, 2);
        restIs(x, 4, 2, 2);
        DUE.parts("gap(4)", x.gap(4, 0), x.gap(4, 1), 0, 1);
        DUE.is("told(11)", x.told(11), 9);
        DUE.is("told(12)", x.told(12), 0);
        DUE.is("told(20)", x.told(20), 1);
    }

    private static void restAtEveryInn() {
        DUE.about("REST: WEIGHTS of the sum t, gap the GAP of MAN 0 by them");
        for (int n = 2; n <= 6; n++) {
            for (int m = 2; m <= 6; m++) {
                for (int law = 0; law <= 3; law++) {
                    for (int t = 1; t <= 8; t++) {
                        restHolds(Inns.at(n, m, law), t);
                    }
                }
            }
        }
    }

    private static void restByWhatIsNow() {
        DUE.about("REST by the MEN, the NUMBERS and THE LAW that are now");
        LeastAlone x = new LeastAlone();
        for (int n = 2; n <= 6; n++) {
            for (int m = 2; m <= 6; m++) {
                x.inn(n, m);
                for (int law = 0; law <= 3; law++) {
                    x.rule(law);
                    LeastAlone y = Inns.at(n, m, law);
                    String inn = "inn " + n + " " + m + ", law " + law;
                    DUE.is(inn + ": rest(5, 1)", x.rest(5, 1), y.rest(5, 1));
                    DUE.is(inn + ": rest(5, " + m + ")", x.rest(5, m), y.rest(5, m));
                    DUE.is(inn + ": gap(5, 0)", x.gap(5, 0), y.gap(5, 0));
                }
            }
        }
    }

    private static void restAfterAnother() {
        DUE.about("REST after one of another LAW, or of as many MEN as there are NUMBERS now");
        LeastAlone x = Inns.at(3, 2, 1);
        restIs(x, 4, 2, 2);
        x.inn(3, 3);
        x.rule(0);
        restIs(x, 4, 2, 1, 1);
        x.inn(2, 4);
        restIs(x, 4, 4, 0, 0, 0);
        x.inn(4, 2);
        LeastAlone y = Inns.at(4, 2, 0);
        restIs(x, 4, y.rest(4, 1), y.rest(4, 2));
        DUE.holds("they differ", x.rest(4, 1) < 4);
    }

    private static void restHolds(LeastAlone x, int t) {
        String inn = "inn " + x.told(1) + " " + x.told(2) + ", law " + x.told(3) + ", sum " + t;
        int[] weights = new int[x.told(2)];
        int sum = 0;
        for (int number = 1; number <= weights.length; number++) {
            weights[number - 1] = x.rest(t, number);
            sum += weights[number - 1];
        }
        DUE.is(inn + ": together", sum, t);
        long upper = x.gap(t, 0);
        long lower = x.gap(t, 1);
        Inns.weigh(x, weights);
        DUE.parts(inn + ": gap", x.mean(0, 1, 0), x.mean(0, 1, 1), upper, lower);
        for (int from = 1; from <= weights.length; from++) {
            for (int to = 1; to <= weights.length; to++) {
                if (from != to && weights[from - 1] > 0) {
                    int[] other = weights.clone();
                    other[from - 1]--;
                    other[to - 1]++;
                    LeastAlone y = Inns.at(x.told(1), x.told(2), x.told(3));
                    Inns.weigh(y, other);
                    long more = y.mean(0, 1, 0) * lower - upper * y.mean(0, 1, 1);
                    // Such as come earlier have to be worse, the others may be as good.
                    DUE.holds(inn + ": from " + from + " to " + to, from < to ? more > 0 : more >= 0);
                }
            }
        }
    }
}
