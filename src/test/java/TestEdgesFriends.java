/** The edges of 'Terms', part 3, and of promises 16 to 21: one test for each sentence. */
public final class TestEdgesFriends {
    private static final Due DUE = new Due();
    private static final long LOST = LeastAlone.LOST;
    private static final int NONE = LeastAlone.NONE;
    private static final int UNKNOWN = LeastAlone.UNKNOWN;
    private static final int OUTSIDE = LeastAlone.OUTSIDE;
    private static final int NO = LeastAlone.NO;

    public static void main(String[] args) {
        setsOutside();
        menNotOfTheSet();
        leagueOutside();
        friendsOfOneMan();
        friendsOfAllMen();
        friendsFirstOfSeveral();
        friendsByPairs();
        foolsOfTheSet();
        foolsBesideTheSet();
        friendsWhoCanNotWin();
        spyRefused();
        spiedRefused();
        spyNoByFault();
        spyAfterWipe();
        spyInsteadOfHisOwnSign();
        spyWithZeros();
        spyWithUntold();
        spyWithFools();
        spyLeastOfSeveral();
        spyByPairs();
        stepsOneToTwenty();
        stepsByWeights();
        stepsByPairs();
        stepsWithoutFools();
        lateRefused();
        lateWinnersForEachMan();
        lateWhoCanNotWin();
        lateFools();
        lateFoolsAlone();
        lateHalves();
        lateByWhatIsNow();
        lateMenWhoAreNoMore();
        DUE.end("TestEdgesFriends");
    }

    private static void pactIs(LeastAlone x, int set, String numbers, long upper, long lower) {
        int place = 0;
        for (int man = 0; man < x.told(1); man++) {
            if ((set >> man & 1) != 0) {
                DUE.is("friends(" + set + ", " + man + ")", x.friends(set, man), numbers.charAt(place++) - '0');
            }
        }
        DUE.parts("league(" + set + ")", x.league(set, 0), x.league(set, 1), upper, lower);
    }

    private static void setsOutside() {
        DUE.about("OUTSIDE: bits 1 to 2 to the n less 1");
        for (int n = 2; n <= 6; n++) {
            LeastAlone x = Inns.at(n, 2, 0);
            int all = (1 << n) - 1;
            for (int set : Inns.EDGES) {
                boolean may = Inns.isBetween(set, 1, all);
                if (!may) {
                    DUE.is("of " + n + ": friends(" + set + ", 0)", x.friends(set, 0), OUTSIDE);
                    DUE.is("of " + n + ": friends(" + set + ", " + (n - 1) + ")", x.friends(set, n - 1), OUTSIDE);
                    DUE.is("of " + n + ": friends(" + set + ", " + n + ")", x.friends(set, n), UNKNOWN);
                }
                DUE.holds("of " + n + ": league(" + set + ", 1)", may ? x.league(set, 1) >= 1 : x.league(set, 1) == LOST + OUTSIDE);
            }
            DUE.is("of " + n + ": friends(" + all + ", 0)", x.friends(all, 0), 1);
            DUE.is("of " + n + ": friends(" + (all + 1) + ", 0)", x.friends(all + 1, 0), OUTSIDE);
            DUE.is("of " + n + ": league(" + (all + 1) + ", 0)", x.league(all + 1, 0), LOST + OUTSIDE);
        }
    }

    private static void menNotOfTheSet() {
        DUE.about("UNKNOWN: also who is not of it");
        for (int n = 2; n <= 4; n++) {
            for (int set = 1; set < 1 << n; set++) {
                LeastAlone x = Inns.at(n, 2, 0);
                for (int man : Inns.EDGES) {
                    boolean of = Inns.isBetween(man, 0, n - 1) && (set >> man & 1) != 0;
                    int got = x.friends(set, man);
                    DUE.holds("of " + n + ": friends(" + set + ", " + man + ")", of ? got == 1 || got == 2 : got == UNKNOWN);
                }
            }
        }
    }

    private static void leagueOutside() {
        DUE.about("league: OUTSIDE: part 0 or 1");
        LeastAlone x = Inns.at(3, 2, 0);
        for (int part : Inns.EDGES) {
            DUE.is("league(4, " + part + ")", x.league(4, part), part == 0 ? 1 : part == 1 ? 4 : LOST + OUTSIDE);
            DUE.is("league(8, " + part + ")", x.league(8, part), LOST + OUTSIDE);
        }
    }

    private static void friendsOfOneMan() {
        DUE.about("FRIENDS of one MAN: his BEST and its WORTH");
        for (int law = 0; law <= 3; law++) {
            LeastAlone x = Inns.at(4, 4, law);
            Inns.weigh(x, 3, 1, 2, 0);
            x.fool(2, 3);
            for (int man = 0; man < 4; man++) {
                int best = x.best(man);
                DUE.is("law " + law + ": friends of " + man, x.friends(1 << man, man), best);
                DUE.parts("law " + law + ": league of " + man, x.league(1 << man, 0), x.league(1 << man, 1),
                        x.worth(man, best, 0), x.worth(man, best, 1));
            }
        }
    }

    private static void friendsOfAllMen() {
        DUE.about("FRIENDS of all MEN");
        for (int n = 2; n <= 6; n++) {
            String first = "11111".substring(0, n - 1) + "2";
            String pairs = new String[] {"11", "112", "1122", "11122", "111122"}[n - 2];
            for (int m = 2; m <= 6; m += 2) {
                for (int law = 0; law <= 3; law++) {
                    LeastAlone x = Inns.at(n, m, law);
                    x.weight(1, 0);
                    pactIs(x, (1 << n) - 1, law == 3 ? pairs : first, 1, 1);
                }
            }
        }
    }

    private static void friendsFirstOfSeveral() {
        DUE.about("of several the first (the first MAN's least, then the second's)");
        LeastAlone x = Inns.at(2, 3, 1);
        pactIs(x, 3, "12", 1, 1);
        x = Inns.at(3, 3, 0);
        x.fool(0, 1);
        // 1 1 and 2 2 leave nobody of them, 1 2, 1 3, 2 1 and 3 1 one of them alone.
        pactIs(x, 6, "12", 1, 1);
        x.fool(0, 3);
        pactIs(x, 6, "12", 1, 1);
        x = Inns.at(3, 3, 0);
        // By any numbers that differ from 1 1 on: 1 2 is alone beside 3 and 2, beside 1 the 2 is.
        pactIs(x, 3, "12", 1, 1);
        pactIs(x, 5, "12", 1, 1);
        pactIs(x, 6, "12", 1, 1);
    }

    private static void friendsByPairs() {
        DUE.about("by LAW 3 two of them: whole, one: half");
        LeastAlone x = Inns.at(3, 2, 3);
        x.fool(2, 1);
        // 1 1 are three, 1 2 and 2 1 half, 2 2 whole.
        pactIs(x, 3, "22", 1, 1);
        pactIs(x, 1, "1", 1, 4);
        x.fool(1, 2);
        pactIs(x, 1, "1", 1, 2);
        x = Inns.at(2, 2, 3);
        pactIs(x, 3, "11", 1, 1);
        pactIs(x, 2, "1", 1, 4);
        x = Inns.at(4, 2, 3);
        x.fool(2, 1);
        x.fool(3, 1);
        // 1 and 1 are of no use, 1 2 neither: 2 2 leave the 1 of two others.
        pactIs(x, 3, "11", 0, 1);
    }

    private static void foolsOfTheSet() {
        DUE.about("FOOLS of the set write what they agree on");
        LeastAlone x = Inns.at(3, 2, 0);
        for (int man = 0; man < 3; man++) {
            x.fool(man, 2);
        }
        pactIs(x, 7, "112", 1, 1);
        // The third's 2: 1 1 leaves it alone, 1 2 the 1.
        pactIs(x, 3, "12", 1, 1);
        pactIs(x, 1, "1", 1, 1);
        DUE.is("they are FOOLS still", x.told(20), 2);
    }

    private static void foolsBesideTheSet() {
        DUE.about("FOOLS among the others as they do");
        LeastAlone x = Inns.at(3, 2, 0);
        pactIs(x, 1, "1", 1, 4);
        x.fool(1, 1);
        // Beside a 1 of the first his 1 is none, his 2 wins, if the third writes 1.
        pactIs(x, 1, "2", 1, 2);
        x.fool(2, 1);
        pactIs(x, 1, "2", 1, 1);
        x.weight(1, 0);
        pactIs(x, 1, "2", 1, 1);
    }

    private static void friendsWhoCanNotWin() {
        DUE.about("FRIENDS: the first, if all bring nothing");
        LeastAlone x = Inns.at(4, 2, 0);
        x.fool(2, 1);
        x.fool(3, 2);
        // Beside a 1 and a 2 of FOOLS neither of his is alone.
        pactIs(x, 1, "1", 0, 1);
        x.fool(1, 1);
        pactIs(x, 1, "1", 0, 1);
        x.inn(3, 2);
        x.fool(1, 1);
        x.fool(2, 2);
        pactIs(x, 1, "1", 0, 1);
    }

    private static void spyIs(LeastAlone x, String slips, int man, int number, long upper, long lower) {
        Inns.write(x, slips);
        DUE.is("spy(" + man + ") at " + slips, x.spy(man), number);
        DUE.parts("spied(" + man + ") at " + slips, x.spied(man, 0), x.spied(man, 1), upper, lower);
    }

    private static void spyRefused() {
        DUE.about("spy: UNKNOWN; NO");
        for (int n = 2; n <= 6; n++) {
            LeastAlone x = Inns.at(n, 2, 0);
            for (int man : Inns.EDGES) {
                DUE.is("of " + n + ": spy(" + man + ")", x.spy(man), Inns.isBetween(man, 0, n - 1) ? NO : UNKNOWN);
            }
            Inns.write(x, "000000".substring(0, n));
            for (int man : Inns.EDGES) {
                DUE.is("of " + n + ", slips: spy(" + man + ")", x.spy(man), Inns.isBetween(man, 0, n - 1) ? 1 : UNKNOWN);
            }
        }
    }

    private static void spiedRefused() {
        DUE.about("spied: UNKNOWN; OUTSIDE; NO");
        LeastAlone x = Inns.at(3, 2, 0);
        LeastAlone y = Inns.at(3, 2, 0);
        Inns.write(y, "??0");
        for (int v : Inns.EDGES) {
            boolean isMan = Inns.isBetween(v, 0, 2);
            boolean isPart = v == 0 || v == 1;
            DUE.is("spied(" + v + ", 0), no slips", x.spied(v, 0), LOST + (isMan ? NO : UNKNOWN));
            DUE.is("spied(" + v + ", 2), no slips", x.spied(v, 2), LOST + (isMan ? OUTSIDE : UNKNOWN));
            DUE.is("spied(2, " + v + "), no slips", x.spied(2, v), LOST + (isPart ? NO : OUTSIDE));
            DUE.is("spied(3, " + v + "), no slips", x.spied(3, v), LOST + UNKNOWN);
            DUE.is("spied(0, " + v + ") at ??0", y.spied(0, v), isPart ? v + 1 : LOST + OUTSIDE);
        }
    }

    private static void spyNoByFault() {
        DUE.about("SPY: NO: there is a FAULT");
        LeastAlone x = Inns.at(2, 2, 0);
        for (String slips : new String[] {"", "1", "?", "0", "13", "31", "121", "???", "1/", "a2", "12~"}) {
            Inns.write(x, slips);
            DUE.is("spy(0) of " + slips, x.spy(0), NO);
            DUE.is("spied(1, 0) of " + slips, x.spied(1, 0), LOST + NO);
            DUE.is("spied(1, 1) of " + slips, x.spied(1, 1), LOST + NO);
        }
        spyIs(x, "12", 0, 1, 1, 1);
        x.inn(3, 2);
        DUE.is("spy(0) of 12 at three MEN", x.spy(0), NO);
    }

    private static void spyAfterWipe() {
        DUE.about("SPY: signs that were wiped are no SLIPS");
        LeastAlone x = Inns.at(2, 2, 0);
        Inns.write(x, "0?1");
        spyIs(x, "0?", 0, 1, 1, 2);
        Inns.write(x, "0000001");
        spyIs(x, "00", 1, 1, 1, 1);
    }

    private static void spyInsteadOfHisOwnSign() {
        DUE.about("SPY: each NUMBER instead of his own sign");
        LeastAlone x = Inns.at(3, 3, 0);
        for (String own : new String[] {"0", "1", "2", "3", "?"}) {
            spyIs(x, own + "11", 0, 2, 1, 1);
            spyIs(x, "1" + own + "1", 1, 2, 1, 1);
            spyIs(x, "12" + own, 2, 1, 0, 1);
            spyIs(x, own + "?3", 0, 1, 2, 3);
        }
    }

    private static void spyWithZeros() {
        DUE.about("SPY: 0 among the SLIPS writes nothing");
        LeastAlone x = Inns.at(4, 2, 0);
        spyIs(x, "0000", 3, 1, 1, 1);
        spyIs(x, "0001", 0, 1, 0, 1);
        spyIs(x, "0011", 0, 2, 1, 1);
        spyIs(x, "0002", 0, 1, 1, 1);
        spyIs(x, "0?00", 0, 1, 1, 2);
        spyIs(x, "0??0", 0, 1, 1, 4);
        x.rule(3);
        spyIs(x, "0000", 0, 1, 0, 1);
        spyIs(x, "0002", 0, 2, 1, 2);
    }

    private static void spyWithUntold() {
        DUE.about("SPY: those with ? writing by WEIGHTS");
        LeastAlone x = Inns.at(3, 3, 0);
        spyIs(x, "???", 0, 1, 4, 9);
        Inns.weigh(x, 2, 1, 1);
        spyIs(x, "?0?", 0, 1, 1, 2);
        spyIs(x, "???", 0, 2, 5, 16);
        Inns.weigh(x, 0, 0, 9);
        spyIs(x, "???", 0, 1, 1, 1);
        Inns.weigh(x, 9, 0, 0);
        spyIs(x, "???", 0, 2, 1, 1);
    }

    private static void spyWithFools() {
        DUE.about("SPY: FOOLS with ? by WEIGHTS, with a NUMBER as it is told");
        LeastAlone x = Inns.at(2, 3, 0);
        x.fool(0, 3);
        x.fool(1, 1);
        spyIs(x, "??", 0, 1, 2, 3);
        spyIs(x, "?2", 0, 1, 1, 1);
        spyIs(x, "?0", 0, 1, 1, 1);
        spyIs(x, "?1", 0, 1, 0, 1);
        spyIs(x, "??", 1, 1, 2, 3);
    }

    private static void spyLeastOfSeveral() {
        DUE.about("SPY: the best NUMBER, the least of several");
        LeastAlone x = Inns.at(3, 6, 0);
        spyIs(x, "011", 0, 2, 1, 1);
        spyIs(x, "022", 0, 1, 1, 1);
        spyIs(x, "012", 0, 1, 0, 1);
        x.rule(1);
        spyIs(x, "012", 0, 3, 1, 1);
        spyIs(x, "066", 0, 1, 1, 1);
        spyIs(x, "065", 0, 1, 0, 1);
        x.rule(2);
        // 1 of 1 4 6 is not the middle one, 2 of 2 4 6 neither: 4 is; 5 of 4 5 6 is.
        spyIs(x, "046", 0, 5, 1, 1);
        // The lesser of two.
        spyIs(x, "006", 0, 1, 1, 1);
        spyIs(x, "001", 0, 1, 0, 1);
    }

    private static void spyByPairs() {
        DUE.about("SPY by LAW 3: half");
        LeastAlone x = Inns.at(4, 3, 3);
        spyIs(x, "0123", 0, 1, 1, 2);
        spyIs(x, "0223", 0, 1, 0, 1);
        spyIs(x, "0033", 0, 1, 0, 1);
        spyIs(x, "0331", 0, 1, 1, 2);
        spyIs(x, "000?", 0, 1, 1, 6);
        spyIs(x, "003?", 0, 3, 1, 3);
    }

    private static void stepsOneToTwenty() {
        DUE.about("steps: OUTSIDE: k 1 to 20");
        LeastAlone x = Inns.at(3, 2, 0);
        for (int k : Inns.EDGES) {
            DUE.is("steps(" + k + ")", x.steps(k), Inns.isBetween(k, 1, 20) ? k % 2 == 0 ? 2 : 1 : OUTSIDE);
        }
        for (int k = 1; k <= 20; k++) {
            DUE.is("steps(" + k + ")", x.steps(k), k % 2 == 0 ? 2 : 1);
        }
    }

    private static void stepsByWeights() {
        DUE.about("STEPS: one who thinks 0 steps writes by WEIGHTS");
        LeastAlone x = Inns.at(3, 2, 0);
        x.weight(1, 0);
        DUE.is("steps(1): all others write 2", x.steps(1), 1);
        DUE.is("steps(2)", x.steps(2), 2);
        DUE.is("steps(20)", x.steps(20), 2);
        Inns.weigh(x, 1, 0);
        DUE.is("steps(1): all others write 1", x.steps(1), 2);
        DUE.is("steps(2)", x.steps(2), 1);
        DUE.is("steps(20)", x.steps(20), 1);
        x = Inns.at(2, 2, 0);
        for (int k = 1; k <= 20; k++) {
            DUE.is("of two: steps(" + k + "): nothing is better than 1", x.steps(k), 1);
        }
    }

    private static void stepsByPairs() {
        DUE.about("STEPS by LAW 3");
        LeastAlone x = Inns.at(2, 6, 3);
        DUE.is("steps(1), all alike", x.steps(1), 1);
        x.weight(6, 2);
        DUE.is("steps(1)", x.steps(1), 6);
        DUE.is("steps(20)", x.steps(20), 6);
        x = Inns.at(3, 6, 3);
        x.weight(6, 2);
        DUE.is("steps(1) of three", x.steps(1), 6);
        // The others' 6 is of two, whatever he writes beside it.
        DUE.is("steps(2) of three", x.steps(2), 1);
        DUE.is("steps(3) of three", x.steps(3), 1);
    }

    private static void stepsWithoutFools() {
        DUE.about("STEPS: without FOOLS");
        LeastAlone x = Inns.at(3, 2, 0);
        for (int number = 1; number <= 2; number++) {
            for (int man = 0; man < 3; man++) {
                x.fool(man, number);
            }
            for (int k = 1; k <= 20; k++) {
                DUE.is("steps(" + k + ")", x.steps(k), k % 2 == 0 ? 2 : 1);
            }
        }
    }

    private static void lateIs(LeastAlone x, String slips, int men) {
        for (int man = 0; man < slips.length(); man++) {
            DUE.is("late(" + man + ", 0)", x.late(man, 0), slips.charAt(man) - '0');
            DUE.is("late(" + man + ", 1)", x.late(man, 1), men);
        }
    }

    private static void lateRefused() {
        DUE.about("late: UNKNOWN; OUTSIDE");
        for (int n = 2; n <= 6; n++) {
            LeastAlone x = Inns.at(n, 2, 0);
            for (int man = 0; man < n; man++) {
                x.fool(man, 2);
            }
            for (int v : Inns.EDGES) {
                boolean isMan = Inns.isBetween(v, 0, n - 1);
                DUE.is("of " + n + ": late(" + v + ", 0)", x.late(v, 0), isMan ? 2 : UNKNOWN);
                DUE.is("of " + n + ": late(" + v + ", 1)", x.late(v, 1), isMan ? NONE : UNKNOWN);
                DUE.is("of " + n + ": late(" + v + ", 2)", x.late(v, 2), isMan ? OUTSIDE : UNKNOWN);
                DUE.is("of " + n + ": late(0, " + v + ")", x.late(0, v), v == 0 ? 2 : v == 1 ? NONE : OUTSIDE);
                DUE.is("of " + n + ": late(6, " + v + ")", x.late(6, v), UNKNOWN);
            }
        }
    }

    private static void lateWinnersForEachMan() {
        DUE.about("MEN who win then: the MAN does not matter, but for being one");
        LeastAlone x = Inns.at(6, 6, 0);
        x.fool(5, 6);
        int men = x.late(0, 1);
        for (int man = 0; man < 6; man++) {
            DUE.is("late(" + man + ", 1)", x.late(man, 1), men);
        }
        DUE.is("late(6, 1)", x.late(6, 1), UNKNOWN);
        DUE.is("late(-1, 1)", x.late(-1, 1), UNKNOWN);
    }

    private static void lateWhoCanNotWin() {
        DUE.about("LATE: the least NUMBER of those that bring as much");
        // Whatever the first writes, the second brings him to nothing, and has nothing himself.
        lateIs(Inns.at(2, 2, 0), "11", NONE);
        // By the greatest the first's own is not to be beaten, and the second's 1 leaves it.
        lateIs(Inns.at(2, 2, 1), "21", 1);
        lateIs(Inns.at(2, 6, 1), "61", 1);
        LeastAlone x = Inns.at(3, 2, 0);
        x.fool(0, 1);
        x.fool(1, 2);
        lateIs(x, "121", 2);
        x.rule(3);
        lateIs(x, "121", 5);
        x.fool(1, 1);
        lateIs(x, "111", NONE);
    }

    private static void lateFools() {
        DUE.about("LATE: FOOLS their own");
        LeastAlone x = Inns.at(3, 2, 0);
        x.fool(0, 1);
        // The second's 1 would leave a 2 alone to the third; beside his 2 the third has nothing, and writes 1.
        lateIs(x, "121", 2);
        x = Inns.at(3, 2, 0);
        x.fool(1, 1);
        lateIs(x, "211", 1);
        x = Inns.at(3, 2, 0);
        x.fool(2, 1);
        lateIs(x, "211", 1);
        x.weight(1, 0);
        lateIs(x, "211", 1);
    }

    private static void lateFoolsAlone() {
        DUE.about("LATE: all are FOOLS");
        LeastAlone x = Inns.at(3, 3, 0);
        x.fool(0, 3);
        x.fool(1, 2);
        x.fool(2, 1);
        lateIs(x, "321", 4);
        x.rule(1);
        lateIs(x, "321", 1);
        x.rule(2);
        lateIs(x, "321", 2);
        x.rule(3);
        lateIs(x, "321", NONE);
        x.fool(2, 3);
        lateIs(x, "323", 5);
    }

    private static void lateHalves() {
        DUE.about("LATE by LAW 3: half is the most");
        LeastAlone x = Inns.at(3, 2, 3);
        x.fool(0, 2);
        // The third joins the second's 1, which is the least that brings him half.
        lateIs(x, "211", 6);
        x.fool(0, 0);
        x.fool(2, 2);
        // The first's 1 is joined by the second.
        lateIs(x, "112", 3);
        lateIs(Inns.at(2, 6, 3), "11", 3);
    }

    private static void lateByWhatIsNow() {
        DUE.about("LATE by the LAW and the FOOLS that are now");
        LeastAlone x = Inns.at(3, 3, 0);
        lateIs(x, "211", 1);
        x.rule(1);
        lateIs(x, "311", 1);
        x.rule(3);
        lateIs(x, "111", NONE);
        x.rule(0);
        x.fool(2, 1);
        lateIs(x, "211", 1);
        x.fool(0, 3);
        // The second has nothing by any number, and his 1 beside the last one's leaves the 3.
        lateIs(x, "311", 1);
        x.fool(2, 0);
        x.fool(0, 1);
        // Beside 1 and 2 the third has nothing, and his 1 leaves the 2.
        lateIs(x, "121", 2);
    }

    private static void lateMenWhoAreNoMore() {
        DUE.about("LATE: MEN 0 to n less 1 win, and no others");
        LeastAlone x = Inns.at(6, 2, 3);
        for (int man = 0; man < 6; man++) {
            x.fool(man, 1);
        }
        lateIs(x, "111111", NONE);
        x.inn(2, 2);
        lateIs(x, "11", 3);
    }
}
