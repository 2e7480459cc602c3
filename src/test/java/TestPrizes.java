/** Promises 22 to 30: prize, seen, forget, fits, could, year, image, restore, told. */
public final class TestPrizes {
    private static final Due DUE = new Due();
    private static final long LOST = LeastAlone.LOST;

    public static void main(String[] args) {
        prize();
        prizeRefused();
        seenAndForget();
        fits();
        fitsByLaws();
        fitsAtTheLargest();
        fitsWithoutAny();
        could();
        year();
        yearByWeightsAndFools();
        yearRefused();
        images();
        imagesRefused();
        told();
        DUE.end("TestPrizes");
    }

    private static void prizeIs(LeastAlone x, int p, int c, long upper, long lower) {
        DUE.parts("prize(" + p + ", " + c + ")", x.prize(p, c, 0), x.prize(p, c, 1), upper, lower);
    }

    private static void prize() {
        LeastAlone x = Inns.at(3, 2, 0);
        prizeIs(x, 3, 0, 4, 1);
        prizeIs(x, 1, 0, 4, 3);
        prizeIs(x, 999, 0, 1332, 1);
        prizeIs(x, 3, 50, 2, 1);
        prizeIs(x, 3, 1, 1, 25);
        prizeIs(x, 1, 99, 33, 25);
        x.fool(0, 1);
        x.fool(1, 2);
        x.fool(2, 2);
        prizeIs(x, 7, 0, 7, 1);
    }

    private static void prizeRefused() {
        LeastAlone x = Inns.at(2, 2, 0);
        x.weight(2, 0);
        DUE.is("prize(1, 0, 0): nobody ever", x.prize(1, 0, 0), LOST - 3);
        DUE.is("prize(1, 99, 1): nobody ever", x.prize(1, 99, 1), LOST - 3);
        DUE.is("prize(0, 0, 0)", x.prize(0, 0, 0), LOST - 2);
        DUE.is("prize(1000, 0, 0)", x.prize(1000, 0, 0), LOST - 2);
        DUE.is("prize(1, -1, 0)", x.prize(1, -1, 0), LOST - 2);
        DUE.is("prize(1, 100, 0)", x.prize(1, 100, 0), LOST - 2);
        DUE.is("prize(1, 0, 2)", x.prize(1, 0, 2), LOST - 2);
        DUE.is("prize(1, 0, -1)", x.prize(1, 0, -1), LOST - 2);
    }

    private static void seenAndForget() {
        LeastAlone x = new LeastAlone();
        DUE.is("seen(0, 3, 5)", x.seen(0, 3, 5), 1);
        DUE.is("seen(1, 0, 1)", x.seen(1, 0, 1), 2);
        DUE.is("seen(2, 99, -99)", x.seen(2, 99, -99), 3);
        DUE.is("seen(0, 4, 1)", x.seen(0, 4, 1), LeastAlone.UNKNOWN);
        DUE.is("seen(0, -1, 1)", x.seen(0, -1, 1), LeastAlone.UNKNOWN);
        DUE.is("seen(1, 0, 6)", x.seen(1, 0, 6), LeastAlone.UNKNOWN);
        DUE.is("seen(1, 0, 0)", x.seen(1, 0, 0), LeastAlone.UNKNOWN);
        DUE.is("seen(3, 0, 1)", x.seen(3, 0, 1), LeastAlone.OUTSIDE);
        DUE.is("seen(-1, 0, 1)", x.seen(-1, 0, 1), LeastAlone.OUTSIDE);
        DUE.is("seen(3, 4, 1)", x.seen(3, 4, 1), LeastAlone.UNKNOWN);
        DUE.is("told(4)", x.told(4), 3);
        DUE.is("fourth", x.seen(1, 0, 1), 4);
        DUE.is("fifth", x.seen(1, 0, 1), 5);
        DUE.is("sixth", x.seen(1, 0, 1), 6);
        DUE.is("seventh", x.seen(1, 0, 1), LeastAlone.FULL);
        DUE.is("seventh of nobody", x.seen(2, 0, 0), LeastAlone.FULL);
        DUE.is("seventh, unknown", x.seen(0, 4, 1), LeastAlone.UNKNOWN);
        DUE.is("seventh, outside", x.seen(3, 0, 1), LeastAlone.OUTSIDE);
        DUE.is("forget()", x.forget(), 6);
        DUE.is("forget() again", x.forget(), 0);
        DUE.is("told(4) of none", x.told(4), 0);
    }

    private static void fitsAre(LeastAlone x, int rows, String first) {
        DUE.is("fits(-1)", x.fits(-1), rows);
        for (int man = 0; man < x.told(1); man++) {
            DUE.is("fits(" + man + ")", x.fits(man), rows == 0 ? LeastAlone.NONE : first.charAt(man) - '0');
        }
    }

    private static void fits() {
        LeastAlone x = Inns.at(3, 3, 0);
        fitsAre(x, 27, "111");
        DUE.is("fits(3)", x.fits(3), LeastAlone.NONE);
        DUE.is("fits(-2)", x.fits(-2), LeastAlone.NONE);
        DUE.is("fits(max)", x.fits(Integer.MAX_VALUE), LeastAlone.NONE);
        x.seen(0, 1, 2);
        // Man 1 wins with 2: the others both write 1, or both write 3.
        fitsAre(x, 2, "121");
        x.seen(1, 0, 3);
        fitsAre(x, 1, "323");
        x.fool(0, 1);
        x.weight(3, 0);
        fitsAre(x, 1, "323");
        x.forget();
        x.seen(2, 0, 0);
        fitsAre(x, 3, "111");
        x.seen(1, 2, 3);
        fitsAre(x, 1, "333");
    }

    private static void fitsByLaws() {
        LeastAlone x = Inns.at(3, 3, 3);
        x.seen(0, 1, 2);
        // Man 1 and just one other with 2, the third with another number.
        fitsAre(x, 4, "122");
        x.seen(0, 0, 2);
        fitsAre(x, 2, "221");
        x.rule(0);
        // Two can not both be alone.
        fitsAre(x, 0, "");
        x.forget();
        x.seen(0, 0, 2);
        x.rule(2);
        // 2 11, 2 33, 2 13, 2 31.
        fitsAre(x, 4, "211");
        x.rule(1);
        // 2 11 and 2 33.
        fitsAre(x, 2, "211");
        x.seen(1, 1, 3);
        fitsAre(x, 1, "233");
    }

    private static void fitsAtTheLargest() {
        LeastAlone x = Inns.at(6, 6, 0);
        fitsAre(x, 46656, "111111");
        DUE.is("could(5)", x.could(5), 126);
        x.seen(1, 5, 6);
        fitsAre(x, 7776, "111116");
        x.seen(0, 0, 6);
        fitsAre(x, 0, "");
    }

    private static void fitsWithoutAny() {
        LeastAlone x = Inns.at(3, 3, 0);
        x.seen(1, 0, 1);
        x.seen(1, 0, 2);
        fitsAre(x, 0, "");
        DUE.is("could(0) of none", x.could(0), 0);
        DUE.is("could(1) of none", x.could(1), 0);
        x.forget();
        x.seen(0, 0, 1);
        x.seen(2, 0, 0);
        fitsAre(x, 0, "");
        x.forget();
        x.seen(0, 0, 1);
        x.seen(0, 1, 2);
        fitsAre(x, 0, "");
        DUE.is("could(2) of none", x.could(2), 0);
    }

    private static void could() {
        LeastAlone x = Inns.at(3, 3, 0);
        DUE.is("could(2) of all", x.could(2), 14);
        x.seen(0, 1, 2);
        DUE.is("could(0)", x.could(0), 10);
        DUE.is("could(1)", x.could(1), 4);
        DUE.is("could(2)", x.could(2), 10);
        x.seen(1, 0, 3);
        DUE.is("could(2) once more", x.could(2), 8);
        DUE.is("could(3)", x.could(3), LeastAlone.UNKNOWN);
        DUE.is("could(-1)", x.could(-1), LeastAlone.UNKNOWN);
    }

    private static void yearIs(LeastAlone x, int seed, int e, int nobody, int... men) {
        DUE.is("year(" + seed + ", " + e + ", -1)", x.year(seed, e, -1), nobody);
        for (int man = 0; man < men.length; man++) {
            DUE.is("year(" + seed + ", " + e + ", " + man + ")", x.year(seed, e, man), men[man]);
        }
    }

    private static void year() {
        // x by 0: 74, 5624; 28652, 51790; 17641, 12409; 13231, 9344: slips 11, 11, 22, 21.
        LeastAlone x = Inns.at(2, 2, 0);
        yearIs(x, 0, 1, 1, 0, 0);
        yearIs(x, 0, 3, 3, 0, 0);
        yearIs(x, 0, 4, 3, 0, 1);
        x.rule(1);
        yearIs(x, 0, 4, 3, 1, 0);
        x.rule(3);
        yearIs(x, 0, 3, 0, 3, 3);
        yearIs(x, 0, 4, 1, 3, 3);
    }

    private static void yearByWeightsAndFools() {
        LeastAlone x = Inns.at(2, 2, 0);
        x.weight(1, 3);
        // By 4: 2, 0; 0, 2; 1, 1; 3, 0: slips 11, 11, 11, 21.
        yearIs(x, 0, 4, 3, 0, 1);
        x.weight(2, 6);
        // By 9: 2, 8; 5, 4; 1, 7; 1, 2: slips 12, 22, 12, 11.
        yearIs(x, 0, 4, 2, 2, 0);
        x.weight(2, 1);
        x.weight(1, 1);
        x.fool(0, 2);
        // The fool takes his turn of x all the same: 21, 21, 22, 21.
        yearIs(x, 0, 4, 1, 0, 3);
        x.fool(1, 2);
        yearIs(x, 9999, 99, 99, 0, 0);
    }

    private static void yearRefused() {
        LeastAlone x = new LeastAlone();
        DUE.is("year(-1, 0, 4)", x.year(-1, 0, 4), LeastAlone.UNKNOWN);
        DUE.is("year(0, 1, -2)", x.year(0, 1, -2), LeastAlone.UNKNOWN);
        DUE.is("year(-1, 1, 0)", x.year(-1, 1, 0), LeastAlone.OUTSIDE);
        DUE.is("year(10000, 1, 0)", x.year(10000, 1, 0), LeastAlone.OUTSIDE);
        DUE.is("year(0, 0, 0)", x.year(0, 0, 0), LeastAlone.OUTSIDE);
        DUE.is("year(0, 100, 0)", x.year(0, 100, 0), LeastAlone.OUTSIDE);
    }

    private static void images() {
        LeastAlone x = Inns.at(3, 3, 2);
        x.weight(2, 5);
        x.fool(1, 3);
        x.seen(0, 1, 2);
        x.say('1');
        DUE.is("image(0)", x.image(0), 1);
        x.say('2');
        x.weight(2, 6);
        x.fool(1, 1);
        x.forget();
        x.seen(1, 0, 1);
        x.seen(1, 0, 2);
        x.rule(3);
        DUE.is("image(1)", x.image(1), 1);
        x.inn(6, 6);
        DUE.is("restore(0)", x.restore(0), 1);
        int[][] first = {{0, 2}, {1, 3}, {2, 3}, {3, 2}, {4, 1}, {11, 1}, {12, 5}, {13, 1}, {20, 0}, {21, 3}, {22, 0}};
        tellAll(x, first);
        DUE.is("its sight", x.fits(-1), 4);
        x.fool(1, 2);
        x.seen(2, 0, 0);
        x.weight(2, 0);
        DUE.is("restore(0) again", x.restore(0), 1);
        tellAll(x, first);
        DUE.is("restore(1)", x.restore(1), 1);
        tellAll(x, new int[][] {{0, 2}, {1, 3}, {2, 3}, {3, 3}, {4, 2}, {11, 1}, {12, 6}, {13, 1}, {21, 1}});
        DUE.is("its sights clash", x.fits(-1), 0);
        DUE.is("image(0) anew", x.image(0), 1);
        x.inn(2, 2);
        DUE.is("restore(0) anew", x.restore(0), 1);
        DUE.is("weight of the new image", x.told(12), 6);
    }

    private static void tellAll(LeastAlone x, int[][] all) {
        for (int[] one : all) {
            DUE.is("told(" + one[0] + ")", x.told(one[0]), one[1]);
        }
    }

    private static void imagesRefused() {
        LeastAlone x = new LeastAlone();
        DUE.is("image(2)", x.image(2), LeastAlone.OUTSIDE);
        DUE.is("image(-1)", x.image(-1), LeastAlone.OUTSIDE);
        DUE.is("restore(2)", x.restore(2), LeastAlone.OUTSIDE);
        DUE.is("restore(-1)", x.restore(-1), LeastAlone.OUTSIDE);
        x.image(1);
        x.rule(1);
        DUE.is("restore(0), not kept", x.restore(0), LeastAlone.STATE);
        DUE.is("refused restore changes nothing", x.told(3), 1);
    }

    private static void told() {
        LeastAlone x = Inns.at(2, 6, 0);
        int[] outside = {-1, 5, 9, 10, 17, 19, 22, 25, 26, Integer.MIN_VALUE, Integer.MAX_VALUE};
        for (int what : outside) {
            DUE.is("told(" + what + ")", x.told(what), LeastAlone.OUTSIDE);
        }
        DUE.is("told(16)", x.told(16), 1);
        DUE.is("told(21)", x.told(21), 0);
        x.inn(6, 2);
        DUE.is("told(13) of two numbers", x.told(13), LeastAlone.OUTSIDE);
        DUE.is("told(25) of six men", x.told(25), 0);
        DUE.is("told(26) of six men", x.told(26), LeastAlone.OUTSIDE);
        x.fool(5, 2);
        DUE.is("told(25) of a fool", x.told(25), 2);
    }
}
