/** The edges of 'Terms', part 4, and of promises 22 to 30: one test for each sentence. */
public final class TestEdgesPrizes {
    private static final Due DUE = new Due();
    private static final long LOST = LeastAlone.LOST;
    private static final int NONE = LeastAlone.NONE;
    private static final int UNKNOWN = LeastAlone.UNKNOWN;
    private static final int OUTSIDE = LeastAlone.OUTSIDE;
    private static final int STATE = LeastAlone.STATE;
    private static final int FULL = LeastAlone.FULL;

    public static void main(String[] args) {
        prizeOneTo999();
        cutZeroTo99();
        prizePart();
        nobodyEverWins();
        somebodyAlwaysWins();
        prizeAtTheLargest();
        seenUnknown();
        seenHow();
        seenNobodyOfAnyMan();
        sixSightsAtMost();
        forget();
        fitsOfNoSights();
        fitsOfEachMan();
        fitsTheFirst();
        sightsThatClash();
        sightsByPairs();
        sightTwice();
        sixSightsForSixMen();
        foolsDoNotCount();
        sightsByTheLawThatIs();
        couldUnknown();
        couldAsBits();
        yearSeeds();
        yearEvenings();
        yearMen();
        yearFirstEvenings();
        yearByLots();
        yearAddsUp();
        yearOfFools();
        imageOutside();
        restoreRefused();
        imageKeepsAllButThePad();
        imagesAreTwo();
        imageStays();
        imageOfSixSights();
        told();
        DUE.end("TestEdgesPrizes");
    }

    private static long divisor(long a, long b) {
        return b == 0 ? a : divisor(b, a % b);
    }

    private static void prizeIs(LeastAlone x, int p, int c, long upper, long lower) {
        long by = divisor(upper, lower);
        DUE.parts("prize(" + p + ", " + c + ")", x.prize(p, c, 0), x.prize(p, c, 1), upper / by, lower / by);
    }

    private static void prizeOneTo999() {
        DUE.about("PRIZE p 1 to 999");
        LeastAlone x = Inns.at(3, 2, 0);
        for (int p : Inns.EDGES) {
            if (Inns.isBetween(p, 1, 999)) {
                // Nobody wins on a quarter of the evenings.
                prizeIs(x, p, 0, 4 * p, 3);
            } else {
                DUE.is("prize(" + p + ", 0, 0)", x.prize(p, 0, 0), LOST + OUTSIDE);
                DUE.is("prize(" + p + ", 99, 1)", x.prize(p, 99, 1), LOST + OUTSIDE);
            }
        }
    }

    private static void cutZeroTo99() {
        DUE.about("CUT of c hundredths 0 to 99, at 0 the mean PRIZE");
        LeastAlone x = Inns.at(3, 2, 0);
        for (int c : Inns.EDGES) {
            if (Inns.isBetween(c, 1, 99)) {
                prizeIs(x, 7, c, 28 * c, 300);
            } else if (c != 0) {
                DUE.is("prize(7, " + c + ", 0)", x.prize(7, c, 0), LOST + OUTSIDE);
                DUE.is("prize(7, " + c + ", 1)", x.prize(7, c, 1), LOST + OUTSIDE);
            }
        }
        prizeIs(x, 7, 0, 28, 3);
        prizeIs(x, 7, 1, 7, 75);
        prizeIs(x, 7, 99, 231, 25);
    }

    private static void prizePart() {
        DUE.about("prize: OUTSIDE: part 0 or 1");
        LeastAlone x = Inns.at(3, 2, 0);
        for (int part : Inns.EDGES) {
            DUE.is("prize(1, 0, " + part + ")", x.prize(1, 0, part), part == 0 ? 4 : part == 1 ? 3 : LOST + OUTSIDE);
        }
    }

    private static void nobodyEverWins() {
        DUE.about("prize: STATE: nobody ever wins");
        for (int n = 3; n <= 6; n++) {
            for (int law = 0; law <= 3; law++) {
                LeastAlone x = Inns.at(n, 2, law);
                x.weight(2, 0);
                DUE.is("prize(1, 0, 0)", x.prize(1, 0, 0), LOST + STATE);
                DUE.is("prize(999, 99, 1)", x.prize(999, 99, 1), LOST + STATE);
                DUE.is("prize(1000, 0, 0)", x.prize(1000, 0, 0), LOST + OUTSIDE);
                DUE.is("prize(1, 100, 0)", x.prize(1, 100, 0), LOST + OUTSIDE);
                DUE.is("prize(1, 0, 2)", x.prize(1, 0, 2), LOST + OUTSIDE);
                x.weight(2, 1);
                DUE.holds("somebody now and then", x.prize(1, 0, 0) > 0);
            }
        }
        LeastAlone x = Inns.at(2, 2, 0);
        x.fool(0, 2);
        x.fool(1, 2);
        DUE.is("by FOOLS", x.prize(1, 0, 0), LOST + STATE);
        x.fool(0, 1);
        prizeIs(x, 1, 0, 1, 1);
    }

    private static void somebodyAlwaysWins() {
        DUE.about("PRIZE, if somebody always wins");
        LeastAlone x = Inns.at(3, 3, 0);
        x.fool(0, 1);
        x.fool(1, 2);
        // Whatever the third writes, one of the FOOLS is alone.
        prizeIs(x, 1, 0, 1, 1);
        prizeIs(x, 999, 0, 999, 1);
        prizeIs(x, 100, 99, 99, 1);
        prizeIs(x, 1, 1, 1, 100);
    }

    private static void prizeAtTheLargest() {
        DUE.about("PRIZE as a fraction, exactly");
        LeastAlone x = Inns.at(6, 2, 0);
        Inns.weigh(x, 9, 3);
        prizeIs(x, 999, 0, 999L * 1024, 369);
        prizeIs(x, 999, 99, 99L * 999 * 1024, 36900);
        Inns.weigh(x, 9, 1);
        // One of six alone: 6 times 9^5 and 6 times 9 of 10^6.
        prizeIs(x, 998, 98, 98L * 998 * 1000000, 35434800L);
    }

    private static void seenUnknown() {
        DUE.about("seen: UNKNOWN");
        for (int how = 0; how <= 1; how++) {
            for (int v : Inns.EDGES) {
                LeastAlone x = Inns.at(3, 5, 0);
                boolean isMan = Inns.isBetween(v, 0, 2);
                boolean isNumber = Inns.isBetween(v, 1, 5);
                DUE.is("seen(" + how + ", " + v + ", 5)", x.seen(how, v, 5), isMan ? 1 : UNKNOWN);
                int was = x.forget();
                DUE.is("forget() after it", was, isMan ? 1 : 0);
                DUE.is("seen(" + how + ", 2, " + v + ")", x.seen(how, 2, v), isNumber ? 1 : UNKNOWN);
                DUE.is("told(4) after it", x.told(4), isNumber ? 1 : 0);
                DUE.is("seen(" + how + ", " + v + ", 6)", x.seen(how, v, 6), UNKNOWN);
            }
        }
    }

    private static void seenHow() {
        DUE.about("seen: OUTSIDE: how");
        for (int how : Inns.EDGES) {
            LeastAlone x = Inns.at(3, 5, 0);
            boolean may = Inns.isBetween(how, 0, 2);
            DUE.is("seen(" + how + ", 0, 1)", x.seen(how, 0, 1), may ? 1 : OUTSIDE);
            DUE.is("told(4) after it", x.told(4), may ? 1 : 0);
            DUE.is("seen(" + how + ", 3, 1)", x.seen(how, 3, 1), how == 2 ? 2 : UNKNOWN);
        }
    }

    private static void seenNobodyOfAnyMan() {
        DUE.about("2 NOBODY wins: MAN, NUMBER do not matter");
        for (int v : Inns.EDGES) {
            LeastAlone x = Inns.at(2, 2, 0);
            DUE.is("seen(2, " + v + ", 1)", x.seen(2, v, 1), 1);
            DUE.is("seen(2, 0, " + v + ")", x.seen(2, 0, v), 2);
            DUE.is("seen(2, " + v + ", " + v + ")", x.seen(2, v, v), 3);
            DUE.is("fits(-1)", x.fits(-1), 2);
            DUE.is("could(0)", x.could(0), 6);
        }
    }

    private static void sixSightsAtMost() {
        DUE.about("SIGHTS, 6 at most");
        for (int how = 0; how <= 2; how++) {
            LeastAlone x = Inns.at(2, 2, 0);
            for (int i = 1; i <= 6; i++) {
                DUE.is("SIGHT " + i, x.seen(how, 0, 1), i);
                DUE.is("told(4)", x.told(4), i);
            }
            for (int other = 0; other <= 2; other++) {
                DUE.is("a seventh", x.seen(other, 1, 2), FULL);
            }
            DUE.is("a seventh of no MAN", x.seen(0, 2, 2), UNKNOWN);
            DUE.is("a seventh of no NUMBER", x.seen(1, 0, 3), UNKNOWN);
            DUE.is("a seventh of no how", x.seen(3, 0, 1), OUTSIDE);
            DUE.is("told(4)", x.told(4), 6);
            DUE.is("fits(-1)", x.fits(-1), how == 0 ? 1 : 2);
            DUE.is("forget()", x.forget(), 6);
            DUE.is("the first again", x.seen(how, 0, 1), 1);
        }
    }

    private static void forget() {
        DUE.about("SIGHTS go: how many there were");
        LeastAlone x = Inns.at(2, 3, 0);
        DUE.is("forget() of none", x.forget(), 0);
        for (int sights = 1; sights <= 6; sights++) {
            for (int i = 0; i < sights; i++) {
                x.seen(1, 0, 1 + i % 3);
            }
            DUE.is("forget() of " + sights, x.forget(), sights);
            DUE.is("forget() again", x.forget(), 0);
            DUE.is("told(4)", x.told(4), 0);
            DUE.is("fits(-1)", x.fits(-1), 9);
        }
    }

    private static void fitsAre(LeastAlone x, int rows, String first) {
        DUE.is("fits(-1)", x.fits(-1), rows);
        for (int man = 0; man < x.told(1); man++) {
            DUE.is("fits(" + man + ")", x.fits(man), rows == 0 ? NONE : first.charAt(man) - '0');
            if (rows == 0) {
                DUE.is("could(" + man + ")", x.could(man), 0);
            }
        }
    }

    private static void fitsOfNoSights() {
        DUE.about("FITS of no SIGHTS: all rows (all write)");
        for (int n = 2; n <= 6; n++) {
            for (int m = 2; m <= 6; m++) {
                LeastAlone x = Inns.at(n, m, (n + m) % 4);
                int rows = 1;
                for (int man = 0; man < n; man++) {
                    rows *= m;
                }
                fitsAre(x, rows, "111111");
                for (int man = 0; man < n; man++) {
                    DUE.is("could(" + man + ")", x.could(man), (2 << m) - 2);
                }
            }
        }
    }

    private static void fitsOfEachMan() {
        DUE.about("FITS: how many (i = -1), what MAN i wrote in the first; NONE");
        for (int n = 2; n <= 6; n++) {
            LeastAlone x = Inns.at(n, 2, 0);
            x.seen(1, 0, 2);
            for (int i : Inns.EDGES) {
                int want = i == -1 ? 1 << n - 1 : i == 0 ? 2 : Inns.isBetween(i, 1, n - 1) ? 1 : NONE;
                DUE.is("of " + n + ": fits(" + i + ")", x.fits(i), want);
            }
            x.seen(1, 0, 1);
            for (int i : Inns.EDGES) {
                DUE.is("of " + n + ", no row: fits(" + i + ")", x.fits(i), i == -1 ? 0 : NONE);
            }
        }
    }

    private static void fitsTheFirst() {
        DUE.about("FITS: the first");
        LeastAlone x = Inns.at(3, 3, 0);
        x.seen(0, 2, 1);
        fitsAre(x, 4, "221");
        x.rule(1);
        // 3 is alone, if the others write alike or what is less: 1 1, 1 2, 2 1, 2 2.
        x.forget();
        x.seen(0, 2, 3);
        fitsAre(x, 4, "113");
        x.seen(1, 0, 2);
        fitsAre(x, 2, "213");
        x.rule(0);
        // The least: 3 wins only beside two alike.
        fitsAre(x, 1, "223");
        x = Inns.at(6, 2, 0);
        x.seen(0, 5, 2);
        fitsAre(x, 1, "111112");
        x = Inns.at(2, 6, 2);
        x.seen(2, 0, 0);
        fitsAre(x, 6, "11");
        DUE.is("could(1) of nobody", x.could(1), 126);
    }

    private static void clashes(int n, int law, int[][] sights) {
        LeastAlone x = Inns.at(n, 3, law);
        for (int[] s : sights) {
            x.seen(s[0], s[1], s[2]);
        }
        fitsAre(x, 0, "");
        DUE.is("the SIGHTS stay", x.told(4), sights.length);
        x.forget();
        DUE.holds("rows again", x.fits(-1) > 0);
    }

    private static void sightsThatClash() {
        DUE.about("SIGHTS that can not hold together");
        for (int law = 0; law <= 3; law++) {
            clashes(3, law, new int[][] {{1, 0, 1}, {1, 0, 2}});
            clashes(3, law, new int[][] {{0, 0, 1}, {2, 0, 0}});
            clashes(3, law, new int[][] {{2, 0, 0}, {0, 0, 1}});
            clashes(3, law, new int[][] {{0, 0, 1}, {0, 0, 2}});
            clashes(3, law, new int[][] {{0, 0, 1}, {0, 1, 2}});
            clashes(3, law, new int[][] {{0, 0, 1}, {1, 0, 2}});
            clashes(3, law, new int[][] {{1, 0, 2}, {0, 0, 1}});
            clashes(3, law, new int[][] {{0, 0, 1}, {0, 1, 1}, {0, 2, 1}});
            clashes(3, law, new int[][] {{1, 0, 1}, {1, 1, 1}, {1, 2, 1}, {0, 0, 1}});
            if (law < 3) {
                clashes(3, law, new int[][] {{0, 0, 1}, {0, 1, 1}});
                clashes(3, law, new int[][] {{0, 0, 1}, {1, 1, 1}});
                clashes(3, law, new int[][] {{1, 0, 1}, {1, 1, 1}, {1, 2, 2}, {2, 0, 0}});
            }
        }
        clashes(3, 0, new int[][] {{1, 0, 1}, {1, 1, 2}, {0, 2, 3}});
        clashes(3, 1, new int[][] {{1, 0, 3}, {1, 1, 2}, {0, 2, 1}});
        clashes(3, 2, new int[][] {{1, 0, 3}, {1, 1, 2}, {0, 2, 1}});
        clashes(2, 3, new int[][] {{0, 0, 1}, {1, 1, 2}});
        clashes(4, 3, new int[][] {{1, 0, 1}, {1, 1, 1}, {0, 2, 2}});
    }

    private static void sightsByPairs() {
        DUE.about("a MAN wins with a NUMBER (by LAW 3 with another one)");
        LeastAlone x = Inns.at(3, 2, 3);
        x.seen(0, 0, 2);
        fitsAre(x, 2, "212");
        DUE.is("could(1)", x.could(1), 6);
        x.seen(0, 1, 2);
        fitsAre(x, 1, "221");
        DUE.is("could(2)", x.could(2), 2);
        x.forget();
        x.seen(2, 0, 0);
        fitsAre(x, 2, "111");
    }

    private static void sightTwice() {
        DUE.about("a SIGHT twice says as much as once");
        for (int law = 0; law <= 3; law++) {
            LeastAlone x = Inns.at(4, 3, law);
            x.seen(0, 1, 2);
            int rows = x.fits(-1);
            x.seen(0, 1, 2);
            x.seen(1, 1, 2);
            DUE.is("law " + law + ": fits(-1)", x.fits(-1), rows);
            x.forget();
            x.seen(2, 0, 0);
            rows = x.fits(-1);
            x.seen(2, 1, 1);
            DUE.is("law " + law + ": fits(-1) of nobody", x.fits(-1), rows);
        }
    }

    private static void sixSightsForSixMen() {
        DUE.about("six SIGHTS, all hold");
        LeastAlone x = Inns.at(6, 6, 0);
        for (int man = 0; man < 6; man++) {
            x.seen(1, man, 6 - man);
        }
        fitsAre(x, 1, "654321");
        for (int man = 0; man < 6; man++) {
            DUE.is("could(" + man + ")", x.could(man), 1 << 6 - man);
        }
        x.forget();
        for (int man = 0; man < 5; man++) {
            x.seen(1, man, 6);
        }
        x.seen(0, 5, 1);
        fitsAre(x, 1, "666661");
        // The last one counts as much as the first.
        x.forget();
        for (int i = 0; i < 5; i++) {
            x.seen(1, 0, 1);
        }
        x.seen(1, 0, 2);
        fitsAre(x, 0, "");
    }

    private static void foolsDoNotCount() {
        DUE.about("FITS: FOOLS do not count, nor WEIGHTS");
        LeastAlone x = Inns.at(2, 3, 0);
        x.fool(0, 3);
        x.fool(1, 3);
        Inns.weigh(x, 0, 0, 1);
        fitsAre(x, 9, "11");
        x.seen(0, 0, 1);
        fitsAre(x, 2, "12");
        DUE.is("could(1)", x.could(1), 12);
    }

    private static void sightsByTheLawThatIs() {
        DUE.about("SIGHTS by THE LAW that is now");
        LeastAlone x = Inns.at(2, 3, 0);
        x.seen(0, 0, 2);
        fitsAre(x, 1, "23");
        x.rule(1);
        fitsAre(x, 1, "21");
        x.rule(2);
        fitsAre(x, 1, "23");
        x.rule(3);
        fitsAre(x, 1, "22");
    }

    private static void couldUnknown() {
        DUE.about("could: UNKNOWN");
        for (int n = 2; n <= 6; n++) {
            LeastAlone x = Inns.at(n, 2, 0);
            for (int man : Inns.EDGES) {
                DUE.is("of " + n + ": could(" + man + ")", x.could(man), Inns.isBetween(man, 0, n - 1) ? 6 : UNKNOWN);
            }
        }
    }

    private static void couldAsBits() {
        DUE.about("NUMBERS that a MAN can have written, as bits (1 to m)");
        LeastAlone x = Inns.at(2, 6, 0);
        for (int number = 1; number <= 6; number++) {
            x.forget();
            x.seen(1, 0, number);
            DUE.is("could(0) of " + number, x.could(0), 1 << number);
            DUE.is("could(1) of " + number, x.could(1), 126);
            x.forget();
            x.seen(0, 0, number);
            DUE.is("could(0) of the winner " + number, x.could(0), number == 6 ? 0 : 1 << number);
            DUE.is("could(1) beside the winner " + number, x.could(1), 126 >> number + 1 << number + 1);
        }
    }

    private static void yearSeeds() {
        DUE.about("a seed 0 to 9999");
        for (int seed : Inns.EDGES) {
            LeastAlone x = Inns.at(2, 2, 0);
            if (Inns.isBetween(seed, 0, 9999)) {
                int sum = x.year(seed, 1, -1) + x.year(seed, 1, 0) + x.year(seed, 1, 1);
                DUE.is("year(" + seed + ", 1, all)", sum, 1);
            } else {
                DUE.is("year(" + seed + ", 1, -1)", x.year(seed, 1, -1), OUTSIDE);
                DUE.is("year(" + seed + ", 99, 1)", x.year(seed, 99, 1), OUTSIDE);
                DUE.is("year(" + seed + ", 1, 2)", x.year(seed, 1, 2), UNKNOWN);
            }
        }
    }

    private static void yearEvenings() {
        DUE.about("e evenings, 1 to 99");
        for (int e : Inns.EDGES) {
            LeastAlone x = Inns.at(2, 2, 0);
            x.fool(0, 1);
            x.fool(1, 2);
            boolean may = Inns.isBetween(e, 1, 99);
            DUE.is("year(0, " + e + ", 0)", x.year(0, e, 0), may ? e : OUTSIDE);
            DUE.is("year(9999, " + e + ", 1)", x.year(9999, e, 1), may ? 0 : OUTSIDE);
            DUE.is("year(9999, " + e + ", -1)", x.year(9999, e, -1), may ? 0 : OUTSIDE);
            DUE.is("year(10000, " + e + ", 0)", x.year(10000, e, 0), OUTSIDE);
            DUE.is("year(0, " + e + ", 2)", x.year(0, e, 2), UNKNOWN);
        }
    }

    private static void yearMen() {
        DUE.about("year: man = -1: nobody; UNKNOWN");
        for (int n = 2; n <= 6; n++) {
            LeastAlone x = Inns.at(n, 2, 0);
            for (int man = 0; man < n; man++) {
                x.fool(man, 2);
            }
            for (int man : Inns.EDGES) {
                int want = man == -1 ? 99 : Inns.isBetween(man, 0, n - 1) ? 0 : UNKNOWN;
                DUE.is("of " + n + ": year(0, 99, " + man + ")", x.year(0, 99, man), want);
                boolean is = Inns.isBetween(man, -1, n - 1);
                DUE.is("of " + n + ": year(0, 100, " + man + ")", x.year(0, 100, man), is ? OUTSIDE : UNKNOWN);
            }
        }
    }

    private static void yearFirstEvenings() {
        DUE.about("x becomes (75 x and 74) left over by 65537");
        LeastAlone x = Inns.at(2, 2, 0);
        // From 9999: 29092, 19253; by 2 these are 0 and 1: slips 1 2.
        DUE.is("year(9999, 1, 0)", x.year(9999, 1, 0), 1);
        DUE.is("year(9999, 1, 1)", x.year(9999, 1, 1), 0);
        DUE.is("year(9999, 1, -1)", x.year(9999, 1, -1), 0);
        // From 0: 74, 5624: slips 1 1.
        DUE.is("year(0, 1, 0)", x.year(0, 1, 0), 0);
        DUE.is("year(0, 1, 1)", x.year(0, 1, 1), 0);
        DUE.is("year(0, 1, -1)", x.year(0, 1, -1), 1);
        DUE.is("year(0, 99, -1) begins with it", x.year(0, 99, -1) - yearFrom(1), 1);
    }

    /** How many of the 98 evenings behind the first of seed 0 have no winner, with two men and two numbers. */
    private static int yearFrom(int first) {
        int x = 0;
        int nobody = 0;
        for (int evening = 0; evening < 99; evening++) {
            x = (75 * x + 74) % 65537;
            int one = x % 2;
            x = (75 * x + 74) % 65537;
            nobody += evening >= first && one == x % 2 ? 1 : 0;
        }
        return nobody;
    }

    private static void yearByLots() {
        DUE.about("lots of NUMBER 1 first, as many as its WEIGHT");
        LeastAlone x = Inns.at(2, 3, 0);
        // From 0: 74 and 5624, by 3 these are 2 and 2.
        DUE.is("3 3: nobody", x.year(0, 1, -1), 1);
        Inns.weigh(x, 2, 0, 7);
        // By 9: 2 and 8: past the lots of 1, none of 2.
        DUE.is("3 3: nobody again", x.year(0, 1, -1), 1);
        Inns.weigh(x, 3, 0, 6);
        DUE.is("1 3: the first", x.year(0, 1, 0), 1);
        Inns.weigh(x, 2, 6, 1);
        DUE.is("2 3: the first", x.year(0, 1, 0), 1);
        Inns.weigh(x, 3, 5, 4);
        // By 12: 2 and 8.
        DUE.is("1 3: the first", x.year(0, 1, 0), 1);
        Inns.weigh(x, 3, 6, 3);
        DUE.is("1 2: the first", x.year(0, 1, 0), 1);
        x.rule(1);
        DUE.is("1 2: the second by the greatest", x.year(0, 1, 1), 1);
        Inns.weigh(x, 6, 6, 0);
        x.fool(0, 2);
        DUE.is("2 2: nobody", x.year(0, 1, -1), 1);
        x.fool(0, 0);
        Inns.weigh(x, 0, 0, 1);
        DUE.is("3 3 by one lot", x.year(0, 99, -1), 99);
    }

    private static void yearAddsUp() {
        DUE.about("a YEAR: evenings on which a MAN won (half ones, too), on which nobody");
        for (int n = 2; n <= 6; n++) {
            for (int law = 0; law <= 3; law++) {
                for (int seed = 0; seed <= 9999; seed += 3333) {
                    LeastAlone x = Inns.at(n, 2 + seed % 5, law);
                    int won = 0;
                    for (int man = 0; man < n; man++) {
                        won += x.year(seed, 99, man);
                    }
                    int evenings = 99 - x.year(seed, 99, -1);
                    DUE.is("inn " + n + ", law " + law + ", seed " + seed, won, law == 3 ? 2 * evenings : evenings);
                }
            }
        }
    }

    private static void yearOfFools() {
        DUE.about("a YEAR: a FOOL his own all the same");
        LeastAlone x = Inns.at(2, 2, 0);
        // From 0: 74, 5624; 28652, 51790; 17641, 12409; 13231, 9344: the second alone writes 1 1 2 1.
        x.fool(0, 2);
        DUE.is("year(0, 4, 1)", x.year(0, 4, 1), 3);
        DUE.is("year(0, 4, -1)", x.year(0, 4, -1), 1);
        x.fool(0, 0);
        x.fool(1, 2);
        // The first alone writes 1 1 2 2.
        DUE.is("year(0, 4, 0)", x.year(0, 4, 0), 2);
        DUE.is("year(0, 4, -1)", x.year(0, 4, -1), 2);
    }

    private static void imageOutside() {
        DUE.about("an IMAGE (0, 1): OUTSIDE");
        for (int n : Inns.EDGES) {
            LeastAlone x = new LeastAlone();
            boolean may = n == 0 || n == 1;
            DUE.is("image(" + n + ")", x.image(n), may ? 1 : OUTSIDE);
            DUE.is("restore(0) after image(" + n + ")", x.restore(0), n == 0 ? 1 : STATE);
            DUE.is("restore(1) after image(" + n + ")", x.restore(1), n == 1 ? 1 : STATE);
        }
    }

    private static void restoreRefused() {
        DUE.about("restore: OUTSIDE; STATE: it was not");
        LeastAlone x = new LeastAlone();
        for (int n : Inns.EDGES) {
            DUE.is("restore(" + n + ")", x.restore(n), n == 0 || n == 1 ? STATE : OUTSIDE);
        }
        x.image(0);
        x.image(1);
        for (int n : Inns.EDGES) {
            DUE.is("restore(" + n + ") of both", x.restore(n), n == 0 || n == 1 ? 1 : OUTSIDE);
        }
    }

    private static void imageKeepsAllButThePad() {
        DUE.about("all but the PAD is kept in an IMAGE");
        LeastAlone x = Inns.at(6, 3, 3);
        Inns.weigh(x, 5, 0, 7);
        for (int man = 0; man < 6; man++) {
            x.fool(man, 1 + man % 3);
        }
        x.seen(0, 5, 3);
        x.seen(1, 0, 2);
        Inns.write(x, "12");
        DUE.is("image(1)", x.image(1), 1);
        int rows = x.fits(-1);
        x.inn(2, 6);
        x.rule(0);
        Inns.write(x, "123");
        DUE.is("restore(1)", x.restore(1), 1);
        DUE.is("signs as they are", x.told(0), 3);
        DUE.is("MEN", x.told(1), 6);
        DUE.is("NUMBERS", x.told(2), 3);
        DUE.is("THE LAW", x.told(3), 3);
        DUE.is("SIGHTS", x.told(4), 2);
        DUE.is("WEIGHT of 1", x.told(11), 5);
        DUE.is("WEIGHT of 2", x.told(12), 0);
        DUE.is("WEIGHT of 3", x.told(13), 7);
        DUE.is("WEIGHT of 4", x.told(14), OUTSIDE);
        for (int man = 0; man < 6; man++) {
            DUE.is("FOOL " + man, x.told(20 + man), 1 + man % 3);
        }
        DUE.is("rows that fit", x.fits(-1), rows);
        DUE.is("could(0)", x.could(0), 4);
        DUE.is("fits(5)", x.fits(5), 3);
    }

    private static void imagesAreTwo() {
        DUE.about("two IMAGES, each its own");
        LeastAlone x = Inns.at(2, 2, 1);
        x.image(0);
        x.inn(3, 3);
        x.rule(2);
        x.image(1);
        x.restore(0);
        DUE.is("MEN of 0", x.told(1), 2);
        DUE.is("LAW of 0", x.told(3), 1);
        x.restore(1);
        DUE.is("MEN of 1", x.told(1), 3);
        DUE.is("LAW of 1", x.told(3), 2);
        x.restore(0);
        x.image(1);
        x.inn(5, 5);
        x.restore(1);
        DUE.is("MEN of 1 anew", x.told(1), 2);
        DUE.is("LAW of 1 anew", x.told(3), 1);
    }

    private static void imageStays() {
        DUE.about("it is as it was when it was kept");
        LeastAlone x = Inns.at(3, 3, 0);
        x.image(0);
        for (int time = 0; time < 3; time++) {
            x.weight(1, 9);
            x.fool(0, 3);
            x.seen(2, 0, 0);
            x.rule(1);
            DUE.is("restore(0)", x.restore(0), 1);
            DUE.is("WEIGHT", x.told(11), 1);
            DUE.is("FOOL", x.told(20), 0);
            DUE.is("SIGHTS", x.told(4), 0);
            DUE.is("LAW", x.told(3), 0);
            DUE.is("rows", x.fits(-1), 27);
        }
    }

    private static void imageOfSixSights() {
        DUE.about("an IMAGE of six SIGHTS is full again");
        LeastAlone x = Inns.at(6, 2, 0);
        for (int man = 0; man < 6; man++) {
            x.seen(1, man, 1 + man % 2);
        }
        x.image(0);
        x.forget();
        x.restore(0);
        DUE.is("a seventh", x.seen(1, 0, 1), FULL);
        fitsAre(x, 1, "121212");
        DUE.is("forget()", x.forget(), 6);
    }

    private static void told() {
        DUE.about("told: OUTSIDE (also of MEN, NUMBERS that there are not)");
        for (int n = 2; n <= 6; n++) {
            for (int m = 2; m <= 6; m++) {
                LeastAlone x = Inns.at(n, m, 1);
                x.say('1');
                x.seen(2, 0, 0);
                x.fool(n - 1, m);
                x.weight(m, 3);
                for (int what = -5; what <= 40; what++) {
                    DUE.is("inn " + n + " " + m + ": told(" + what + ")", x.told(what), toldOf(what, n, m));
                }
                for (int what : Inns.EDGES) {
                    DUE.is("inn " + n + " " + m + ": told(" + what + ")", x.told(what), toldOf(what, n, m));
                }
            }
        }
    }

    private static int toldOf(int what, int n, int m) {
        if (Inns.isBetween(what, 0, 4)) {
            return new int[] {1, n, m, 1, 1}[what];
        }
        if (Inns.isBetween(what, 11, 10 + m)) {
            return what == 10 + m ? 3 : 1;
        }
        if (Inns.isBetween(what, 20, 19 + n)) {
            return what == 19 + n ? m : 0;
        }
        return OUTSIDE;
    }
}
