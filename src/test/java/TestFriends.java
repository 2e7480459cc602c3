/** Promises 16 to 21: friends, league, spy, spied, steps, late. */
public final class TestFriends {
    private static final Due DUE = new Due();
    private static final long LOST = LeastAlone.LOST;

    public static void main(String[] args) {
        friends();
        friendsByPairs();
        friendsAndFools();
        friendsRefused();
        spy();
        spyByPairsAndFools();
        spyRefused();
        steps();
        late();
        lateWithFools();
        lateRefused();
        DUE.end("TestFriends");
    }

    private static void pactIs(LeastAlone x, int set, String numbers, long upper, long lower) {
        int place = 0;
        for (int man = 0; man < x.told(1); man++) {
            boolean of = (set >> man & 1) != 0;
            int want = of ? numbers.charAt(place++) - '0' : LeastAlone.UNKNOWN;
            DUE.is("friends(" + set + ", " + man + ")", x.friends(set, man), want);
        }
        DUE.parts("league(" + set + ")", x.league(set, 0), x.league(set, 1), upper, lower);
    }

    private static void friends() {
        LeastAlone x = Inns.at(2, 2, 0);
        pactIs(x, 1, "1", 1, 2);
        pactIs(x, 2, "1", 1, 2);
        pactIs(x, 3, "12", 1, 1);
        x.rule(1);
        pactIs(x, 3, "12", 1, 1);
        pactIs(x, 2, "2", 1, 2);
        x = Inns.at(3, 2, 0);
        // 1 1: lost by a third 2 alone; 1 2: whoever the third joins, the other is alone.
        pactIs(x, 3, "12", 1, 1);
        pactIs(x, 5, "12", 1, 1);
        pactIs(x, 7, "112", 1, 1);
        pactIs(x, 4, "1", 1, 4);
        x = Inns.at(6, 6, 1);
        pactIs(x, 63, "111112", 1, 1);
    }

    private static void friendsByPairs() {
        LeastAlone x = Inns.at(3, 2, 3);
        // 1 1: whole, if the third writes 2, and nothing otherwise; 1 2: half in any case.
        pactIs(x, 3, "11", 1, 2);
        pactIs(x, 1, "1", 1, 4);
        pactIs(x, 7, "112", 1, 1);
        x.weight(1, 2);
        // 2 2: whole, if the other one writes 1.
        pactIs(x, 6, "22", 2, 3);
        x.weight(1, 0);
        pactIs(x, 6, "11", 1, 1);
    }

    private static void friendsAndFools() {
        LeastAlone x = Inns.at(3, 3, 0);
        x.fool(1, 1);
        // A fool of the set writes what they agree on.
        pactIs(x, 3, "12", 1, 1);
        // A fool outside writes his own: 1 2 leaves the 2 alone, if the third is not at it.
        pactIs(x, 1, "2", 1, 3);
        pactIs(x, 5, "12", 1, 1);
        x.fool(2, 2);
        pactIs(x, 1, "1", 0, 1);
    }

    private static void friendsRefused() {
        LeastAlone x = new LeastAlone();
        DUE.is("friends(0, 0)", x.friends(0, 0), LeastAlone.OUTSIDE);
        DUE.is("friends(16, 0)", x.friends(16, 0), LeastAlone.OUTSIDE);
        DUE.is("friends(17, 0)", x.friends(17, 0), LeastAlone.OUTSIDE);
        DUE.is("friends(-1, 0)", x.friends(-1, 0), LeastAlone.OUTSIDE);
        DUE.is("friends(15, 4)", x.friends(15, 4), LeastAlone.UNKNOWN);
        DUE.is("friends(15, -1)", x.friends(15, -1), LeastAlone.UNKNOWN);
        DUE.is("friends(0, 4)", x.friends(0, 4), LeastAlone.UNKNOWN);
        DUE.is("friends(31, 32)", x.friends(31, 32), LeastAlone.UNKNOWN);
        DUE.is("friends(2, 0)", x.friends(2, 0), LeastAlone.UNKNOWN);
        DUE.is("league(0, 0)", x.league(0, 0), LOST - 2);
        DUE.is("league(16, 0)", x.league(16, 0), LOST - 2);
        DUE.is("league(-1, 0)", x.league(-1, 0), LOST - 2);
        DUE.is("league(1, 2)", x.league(1, 2), LOST - 2);
        DUE.is("league(1, -1)", x.league(1, -1), LOST - 2);
    }

    private static void spyIs(LeastAlone x, String slips, int man, int number, long upper, long lower) {
        Inns.write(x, slips);
        DUE.is("spy(" + man + ") at " + slips, x.spy(man), number);
        DUE.parts("spied(" + man + ") at " + slips, x.spied(man, 0), x.spied(man, 1), upper, lower);
    }

    private static void spy() {
        LeastAlone x = Inns.at(3, 3, 0);
        spyIs(x, "000", 0, 1, 1, 1);
        spyIs(x, "300", 0, 1, 1, 1);
        spyIs(x, "311", 0, 2, 1, 1);
        spyIs(x, "?12", 0, 1, 0, 1);
        spyIs(x, "??1", 0, 2, 1, 3);
        spyIs(x, "???", 2, 1, 4, 9);
        spyIs(x, "0??", 0, 1, 4, 9);
        spyIs(x, "0?0", 1, 1, 1, 1);
        spyIs(x, "020", 0, 1, 1, 1);
        x.weight(1, 0);
        spyIs(x, "??0", 0, 1, 1, 1);
        x.rule(1);
        spyIs(x, "??0", 0, 3, 1, 2);
    }

    private static void spyByPairsAndFools() {
        LeastAlone x = Inns.at(3, 3, 3);
        spyIs(x, "020", 0, 2, 1, 2);
        spyIs(x, "000", 1, 1, 0, 1);
        spyIs(x, "?12", 0, 1, 1, 2);
        spyIs(x, "0?0", 0, 1, 1, 6);
        x.rule(0);
        x.fool(1, 1);
        x.fool(0, 3);
        // The pad says what the fool does not tell: with ? he writes by weights.
        spyIs(x, "0?0", 0, 1, 2, 3);
        spyIs(x, "020", 0, 1, 1, 1);
    }

    private static void spyRefused() {
        LeastAlone x = new LeastAlone();
        DUE.is("spy(4) with a fault", x.spy(4), LeastAlone.UNKNOWN);
        DUE.is("spy(-1)", x.spy(-1), LeastAlone.UNKNOWN);
        DUE.is("spy(0) with a fault", x.spy(0), LeastAlone.NO);
        DUE.is("spied(4, 2)", x.spied(4, 2), LOST - 1);
        DUE.is("spied(0, 2)", x.spied(0, 2), LOST - 2);
        DUE.is("spied(0, -1)", x.spied(0, -1), LOST - 2);
        DUE.is("spied(0, 1)", x.spied(0, 1), LOST - 5);
        Inns.write(x, "12345");
        DUE.is("spy(0) of five slips", x.spy(0), LeastAlone.NO);
        DUE.is("spied(3, 0) of five slips", x.spied(3, 0), LOST - 5);
    }

    private static void steps() {
        LeastAlone x = Inns.at(3, 3, 0);
        int[] least = {1, 2, 1, 2};
        for (int k = 1; k <= 4; k++) {
            DUE.is("steps(" + k + ")", x.steps(k), least[k - 1]);
        }
        DUE.is("steps(20)", x.steps(20), 2);
        x.fool(1, 2);
        DUE.is("steps(1) without fools", x.steps(1), 1);
        x.weight(1, 5);
        DUE.is("steps(1) by weights", x.steps(1), 2);
        DUE.is("steps(2) by weights", x.steps(2), 1);
        x = Inns.at(3, 3, 1);
        int[] greatest = {3, 1, 2, 1, 2};
        for (int k = 1; k <= 5; k++) {
            DUE.is("steps(" + k + ") by the greatest", x.steps(k), greatest[k - 1]);
        }
        x = Inns.at(2, 3, 0);
        DUE.is("steps(2) of two", x.steps(2), 1);
        x.rule(3);
        x.weight(3, 2);
        DUE.is("steps(20) of two by pairs", x.steps(20), 3);
        DUE.is("steps(0)", x.steps(0), LeastAlone.OUTSIDE);
        DUE.is("steps(21)", x.steps(21), LeastAlone.OUTSIDE);
        DUE.is("steps(-1)", x.steps(-1), LeastAlone.OUTSIDE);
    }

    private static void lateIs(LeastAlone x, String slips, int men) {
        for (int man = 0; man < slips.length(); man++) {
            DUE.is("late(" + man + ", 0)", x.late(man, 0), slips.charAt(man) - '0');
            DUE.is("late(" + man + ", 1)", x.late(man, 1), men);
        }
    }

    private static void late() {
        lateIs(Inns.at(2, 3, 0), "11", LeastAlone.NONE);
        // The second can not win, and the least number that brings him nothing leaves the 3 alone.
        lateIs(Inns.at(2, 3, 1), "31", 1);
        lateIs(Inns.at(2, 2, 3), "11", 3);
        lateIs(Inns.at(3, 3, 0), "211", 1);
        lateIs(Inns.at(3, 3, 1), "311", 1);
        lateIs(Inns.at(3, 3, 3), "111", LeastAlone.NONE);
        lateIs(Inns.at(6, 2, 3), "221111", 3);
    }

    private static void lateWithFools() {
        LeastAlone x = Inns.at(2, 2, 0);
        x.fool(1, 2);
        lateIs(x, "12", 1);
        x.fool(0, 2);
        lateIs(x, "22", LeastAlone.NONE);
        x.fool(1, 0);
        lateIs(x, "21", 2);
        x.weight(1, 0);
        lateIs(x, "21", 2);
    }

    private static void lateRefused() {
        LeastAlone x = new LeastAlone();
        DUE.is("late(4, 2)", x.late(4, 2), LeastAlone.UNKNOWN);
        DUE.is("late(4, 1)", x.late(4, 1), LeastAlone.UNKNOWN);
        DUE.is("late(-1, 0)", x.late(-1, 0), LeastAlone.UNKNOWN);
        DUE.is("late(0, 2)", x.late(0, 2), LeastAlone.OUTSIDE);
        DUE.is("late(0, -1)", x.late(0, -1), LeastAlone.OUTSIDE);
    }
}
