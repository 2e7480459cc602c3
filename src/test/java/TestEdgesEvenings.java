/** The edges of 'Terms', part 1, and of promises 1 to 7: one test for each sentence. */
public final class TestEdgesEvenings {
    private static final Due DUE = new Due();
    private static final int NONE = LeastAlone.NONE;
    private static final int UNKNOWN = LeastAlone.UNKNOWN;
    private static final int OUTSIDE = LeastAlone.OUTSIDE;
    private static final int NO = LeastAlone.NO;
    private static final int STATE = LeastAlone.STATE;
    private static final int FULL = LeastAlone.FULL;

    public static void main(String[] args) {
        newObject();
        menTwoToSix();
        numbersTwoToSix();
        innTellsWhatWas();
        innLetsFoolsGo();
        innLetsSightsGo();
        innSetsWeights();
        innLeavesTheRest();
        lawZeroToThree();
        codes33To126();
        signs48AtMost();
        wipe();
        signsThatMayStand();
        faultAtTheFirstPlace();
        faultWhenMoreMustCome();
        faultBySignsTooMany();
        menInOrder();
        menWhoAreNoMore();
        zeroWritesNothing();
        untoldIsState();
        winsOutside();
        winsNoByFault();
        lawLeast();
        lawGreatest();
        lawMiddle();
        lawJustTwo();
        nobodyWins();
        DUE.end("TestEdgesEvenings");
    }

    private static void newObject() {
        DUE.about("a new object: four MEN, five NUMBERS, all with a WEIGHT of 1");
        LeastAlone x = new LeastAlone();
        DUE.is("fool(3, 5)", x.fool(3, 5), 0);
        DUE.is("fool(4, 5)", x.fool(4, 5), UNKNOWN);
        DUE.is("fool(3, 6)", x.fool(3, 6), UNKNOWN);
        DUE.is("told(16)", x.told(16), OUTSIDE);
        DUE.is("told(24)", x.told(24), OUTSIDE);
        for (int number = 1; number <= 5; number++) {
            DUE.is("weight of " + number, x.told(10 + number), 1);
        }
        DUE.is("rule(0): LAW 0 at first", x.rule(0), 0);
        DUE.is("wipe(): no sign at first", x.wipe(), 0);
        DUE.is("forget(): no SIGHT at first", x.forget(), 0);
        DUE.is("inn(4, 5)", x.inn(4, 5), 45);
        DUE.is("fault(): four signs must come", x.fault(), 0);
    }

    private static void menTwoToSix() {
        DUE.about("n 2 to 6");
        for (int n : Inns.EDGES) {
            LeastAlone x = new LeastAlone();
            boolean may = Inns.isBetween(n, 2, 6);
            DUE.is("inn(" + n + ", 3)", x.inn(n, 3), may ? 45 : OUTSIDE);
            int men = may ? n : 4;
            DUE.is("told(1) after inn(" + n + ", 3)", x.told(1), men);
            DUE.is("told(2) after inn(" + n + ", 3)", x.told(2), may ? 3 : 5);
            DUE.is("the last MAN after inn(" + n + ", 3)", x.fool(men - 1, 1), 0);
            DUE.is("one MAN more after inn(" + n + ", 3)", x.fool(men, 1), UNKNOWN);
        }
    }

    private static void numbersTwoToSix() {
        DUE.about("m 2 to 6");
        for (int m : Inns.EDGES) {
            LeastAlone x = new LeastAlone();
            boolean may = Inns.isBetween(m, 2, 6);
            DUE.is("inn(3, " + m + ")", x.inn(3, m), may ? 45 : OUTSIDE);
            int numbers = may ? m : 5;
            DUE.is("told(1) after inn(3, " + m + ")", x.told(1), may ? 3 : 4);
            DUE.is("told(2) after inn(3, " + m + ")", x.told(2), numbers);
            DUE.is("the last NUMBER after inn(3, " + m + ")", x.weight(numbers, 2), 1);
            DUE.is("one NUMBER more after inn(3, " + m + ")", x.weight(numbers + 1, 2), UNKNOWN);
        }
    }

    private static void innTellsWhatWas() {
        DUE.about("n times 10 and m as they were");
        LeastAlone x = new LeastAlone();
        int was = 45;
        for (int n = 2; n <= 6; n++) {
            for (int m = 2; m <= 6; m++) {
                DUE.is("inn(" + n + ", " + m + ")", x.inn(n, m), was);
                was = n * 10 + m;
                DUE.is("inn(1, " + m + ") between", x.inn(1, m), OUTSIDE);
            }
        }
        DUE.is("inn(6, 6) once more", x.inn(6, 6), 66);
    }

    private static void innLetsFoolsGo() {
        DUE.about("inn: FOOLS go");
        LeastAlone x = Inns.at(6, 6, 0);
        for (int man = 0; man < 6; man++) {
            x.fool(man, 6);
        }
        x.inn(6, 6);
        for (int man = 0; man < 6; man++) {
            DUE.is("told of MAN " + man, x.told(20 + man), 0);
        }
        x.fool(5, 6);
        x.inn(2, 2);
        x.inn(6, 2);
        DUE.is("a MAN who was away is none", x.told(25), 0);
    }

    private static void innLetsSightsGo() {
        DUE.about("inn: SIGHTS go");
        LeastAlone x = Inns.at(2, 2, 0);
        for (int i = 0; i < 6; i++) {
            x.seen(1, 0, 2);
        }
        DUE.is("a seventh", x.seen(1, 0, 2), FULL);
        x.inn(2, 2);
        DUE.is("told(4)", x.told(4), 0);
        DUE.is("fits(-1)", x.fits(-1), 4);
        DUE.is("the first again", x.seen(1, 0, 1), 1);
        DUE.is("fits(-1) by it alone", x.fits(-1), 2);
    }

    private static void innSetsWeights() {
        DUE.about("inn: WEIGHTS are 1 each, of NUMBERS that there are");
        LeastAlone x = Inns.at(2, 6, 0);
        Inns.weigh(x, 0, 0, 0, 0, 3, 9);
        x.inn(2, 2);
        DUE.is("told(11)", x.told(11), 1);
        DUE.is("told(12)", x.told(12), 1);
        // Those of NUMBERS that are gone do not count: 9 and 3 are 12 together.
        DUE.is("weight(1, 9)", x.weight(1, 9), 1);
        DUE.is("weight(2, 4)", x.weight(2, 4), OUTSIDE);
        DUE.is("weight(2, 3)", x.weight(2, 3), 1);
        x.inn(2, 6);
        for (int number = 1; number <= 6; number++) {
            DUE.is("weight of " + number + " again", x.told(10 + number), 1);
        }
        DUE.is("weight(6, 8) of 6 together", x.weight(6, 8), OUTSIDE);
        DUE.is("weight(6, 7) of 6 together", x.weight(6, 7), 1);
    }

    private static void innLeavesTheRest() {
        DUE.about("inn leaves what it does not name");
        LeastAlone x = new LeastAlone();
        x.rule(3);
        x.image(0);
        Inns.write(x, "11");
        x.inn(2, 2);
        DUE.is("THE LAW", x.told(3), 3);
        DUE.is("the PAD", x.wins(1), 3);
        DUE.is("the IMAGE", x.restore(0), 1);
        DUE.is("MEN of the IMAGE", x.told(1), 4);
    }

    private static void lawZeroToThree() {
        DUE.about("THE LAW: which it was. OUTSIDE: 0 to 3");
        for (int v : Inns.EDGES) {
            LeastAlone x = new LeastAlone();
            x.rule(2);
            boolean may = Inns.isBetween(v, 0, 3);
            DUE.is("rule(" + v + ")", x.rule(v), may ? 2 : OUTSIDE);
            DUE.is("told(3) after rule(" + v + ")", x.told(3), may ? v : 2);
            DUE.is("rule(1) after rule(" + v + ")", x.rule(1), may ? v : 2);
        }
    }

    private static void codes33To126() {
        DUE.about("codes 33 to 126");
        for (int code = -300; code <= 700; code++) {
            sayOne(code);
        }
        for (int code : Inns.EDGES) {
            sayOne(code);
        }
        // These are codes of signs by their last bits alone.
        sayOne(256 + '1');
        sayOne(65536 + '1');
        sayOne(Integer.MIN_VALUE + '1');
    }

    private static void sayOne(int code) {
        LeastAlone x = new LeastAlone();
        boolean may = Inns.isBetween(code, 33, 126);
        DUE.is("say(" + code + ")", x.say(code), may ? 1 : OUTSIDE);
        DUE.is("told(0) after say(" + code + ")", x.told(0), may ? 1 : 0);
    }

    private static void signs48AtMost() {
        DUE.about("48 SIGNS at most");
        LeastAlone x = new LeastAlone();
        for (int i = 1; i <= 48; i++) {
            DUE.is("sign " + i, x.say(i % 2 == 0 ? '!' : '~'), i);
        }
        DUE.is("told(0)", x.told(0), 48);
        DUE.is("a sign more", x.say('1'), FULL);
        DUE.is("a sign more, and once more", x.say('1'), FULL);
        DUE.is("a sign more, of no code", x.say(127), OUTSIDE);
        DUE.is("told(0) again", x.told(0), 48);
        DUE.is("wipe()", x.wipe(), 48);
        DUE.is("say after wipe()", x.say('1'), 1);
    }

    private static void wipe() {
        DUE.about("signs go: how many there were");
        LeastAlone x = new LeastAlone();
        DUE.is("wipe() of none", x.wipe(), 0);
        for (int length = 1; length <= 9; length++) {
            Inns.write(x, "123456789".substring(0, length));
            DUE.is("wipe() of " + length, x.wipe(), length);
            DUE.is("wipe() again", x.wipe(), 0);
            DUE.is("told(0)", x.told(0), 0);
            DUE.is("fault()", x.fault(), 0);
        }
    }

    private static void signsThatMayStand() {
        DUE.about("a digit: a NUMBER, or 0, or ?");
        for (int m = 2; m <= 6; m++) {
            for (int sign = 33; sign <= 126; sign++) {
                LeastAlone x = Inns.at(2, m, 0);
                boolean may = sign == '?' || Inns.isBetween(sign, '0', '0' + m);
                x.say(sign);
                DUE.is("of " + m + " NUMBERS: fault() of sign " + sign, x.fault(), may ? 1 : 0);
                x.say(sign);
                DUE.is("of " + m + " NUMBERS: fault() of sign " + sign + " twice", x.fault(), may ? NONE : 0);
            }
        }
    }

    private static void faultAtTheFirstPlace() {
        DUE.about("the first sign that can not stand there");
        for (int n = 2; n <= 6; n++) {
            LeastAlone x = Inns.at(n, 3, 0);
            for (int place = 0; place < n; place++) {
                String right = "1?0321".substring(0, place);
                Inns.write(x, right + "4");
                DUE.is("last of all", x.fault(), place);
                Inns.write(x, right + "4" + "111111".substring(0, n - place - 1));
                DUE.is("right ones behind it", x.fault(), place);
                Inns.write(x, right + "4444444");
                DUE.is("wrong ones behind it", x.fault(), place);
            }
        }
    }

    private static void faultWhenMoreMustCome() {
        DUE.about("the number of signs, if more must come");
        for (int n = 2; n <= 6; n++) {
            LeastAlone x = Inns.at(n, 2, 0);
            for (int signs = 0; signs < n; signs++) {
                DUE.is(signs + " signs of " + n + " MEN", x.fault(), signs);
                x.say("0?12".charAt(signs % 4));
            }
            DUE.is(n + " signs of " + n + " MEN", x.fault(), NONE);
        }
    }

    private static void faultBySignsTooMany() {
        DUE.about("no sign can stand behind the last MAN's");
        for (int n = 2; n <= 6; n++) {
            LeastAlone x = Inns.at(n, 2, 0);
            for (int i = 0; i < 48; i++) {
                x.say('1');
                DUE.is((i + 1) + " signs of " + n + " MEN", x.fault(), i + 1 < n ? i + 1 : i + 1 == n ? NONE : n);
            }
            x.say('1');
            DUE.is("a full PAD", x.fault(), n);
        }
        LeastAlone x = Inns.at(2, 2, 0);
        Inns.write(x, "12~");
        DUE.is("a wrong one too many", x.fault(), 2);
        x.inn(3, 2);
        DUE.is("a wrong one of three", x.fault(), 2);
        Inns.write(x, "121");
        DUE.is("three of three", x.fault(), NONE);
        x.inn(2, 2);
        DUE.is("three of two", x.fault(), 2);
    }

    private static void winsAre(LeastAlone x, String slips, int number, int men) {
        Inns.write(x, slips);
        DUE.is("fault() of " + slips, x.fault(), NONE);
        DUE.is("wins(0) of " + slips, x.wins(0), number);
        DUE.is("wins(1) of " + slips, x.wins(1), men);
    }

    private static void menInOrder() {
        DUE.about("for each MAN in order a digit; MEN who win, as bits");
        LeastAlone x = Inns.at(6, 2, 0);
        winsAre(x, "100000", 1, 1);
        winsAre(x, "010000", 1, 2);
        winsAre(x, "001000", 1, 4);
        winsAre(x, "000100", 1, 8);
        winsAre(x, "000010", 1, 16);
        winsAre(x, "000001", 1, 32);
    }

    private static void menWhoAreNoMore() {
        DUE.about("MEN 0 to n less 1 win, and no others");
        LeastAlone x = Inns.at(6, 2, 0);
        winsAre(x, "222221", 1, 32);
        x.inn(2, 2);
        winsAre(x, "12", 1, 1);
        winsAre(x, "02", 2, 2);
        x.rule(3);
        winsAre(x, "22", 2, 3);
    }

    private static void zeroWritesNothing() {
        DUE.about("0: he writes nothing");
        LeastAlone x = Inns.at(3, 2, 0);
        winsAre(x, "022", NONE, NONE);
        winsAre(x, "002", 2, 4);
        winsAre(x, "000", NONE, NONE);
        x.rule(2);
        winsAre(x, "012", 1, 2);
        x.rule(3);
        winsAre(x, "001", NONE, NONE);
        winsAre(x, "022", 2, 6);
    }

    private static void untoldIsState() {
        DUE.about("wins: STATE: some ?");
        for (int place = 0; place < 6; place++) {
            LeastAlone x = Inns.at(6, 6, 0);
            Inns.write(x, "123456".substring(0, place) + "?" + "123456".substring(place + 1));
            DUE.is("wins(0), ? at " + place, x.wins(0), STATE);
            DUE.is("wins(1), ? at " + place, x.wins(1), STATE);
            DUE.is("fault(), ? at " + place, x.fault(), NONE);
            DUE.is("told(0), ? at " + place, x.told(0), 6);
        }
        LeastAlone x = Inns.at(2, 2, 0);
        Inns.write(x, "??");
        DUE.is("wins(0) of ?? alone", x.wins(0), STATE);
        Inns.write(x, "12");
        DUE.is("wins(0) of what stands there now", x.wins(0), 1);
    }

    private static void winsOutside() {
        DUE.about("wins: OUTSIDE: what is 0 or 1");
        for (int what : Inns.EDGES) {
            boolean may = Inns.isBetween(what, 0, 1);
            LeastAlone x = Inns.at(2, 3, 0);
            DUE.is("wins(" + what + ") of no slips", x.wins(what), may ? NO : OUTSIDE);
            Inns.write(x, "3?");
            DUE.is("wins(" + what + ") of 3?", x.wins(what), may ? STATE : OUTSIDE);
            Inns.write(x, "33");
            DUE.is("wins(" + what + ") of 33", x.wins(what), may ? NONE : OUTSIDE);
            Inns.write(x, "32");
            DUE.is("wins(" + what + ") of 32", x.wins(what), may ? 2 : OUTSIDE);
        }
    }

    private static void winsNoByFault() {
        DUE.about("wins: NO: there is a FAULT");
        LeastAlone x = Inns.at(2, 2, 0);
        for (String slips : new String[] {"", "1", "123", "13", "31", "1/", "!2", "121212", "?", "?3", "1??"}) {
            Inns.write(x, slips);
            DUE.is("wins(0) of " + slips, x.wins(0), NO);
            DUE.is("wins(1) of " + slips, x.wins(1), NO);
        }
        Inns.write(x, "12");
        DUE.is("wins(0) of 12", x.wins(0), 1);
        x.inn(3, 2);
        DUE.is("wins(0) of 12 at three MEN", x.wins(0), NO);
    }

    private static void lawLeast() {
        DUE.about("0: the least that is ALONE wins");
        LeastAlone x = Inns.at(6, 6, 0);
        winsAre(x, "123456", 1, 1);
        winsAre(x, "023456", 2, 2);
        winsAre(x, "123450", 1, 1);
        winsAre(x, "112345", 2, 4);
        winsAre(x, "112234", 3, 16);
        winsAre(x, "111156", 5, 16);
        winsAre(x, "111116", 6, 32);
        winsAre(x, "111226", 6, 32);
        winsAre(x, "600000", 6, 1);
    }

    private static void lawGreatest() {
        DUE.about("1: the greatest that is ALONE");
        LeastAlone x = Inns.at(6, 6, 1);
        winsAre(x, "123456", 6, 32);
        winsAre(x, "123450", 5, 16);
        winsAre(x, "234560", 6, 16);
        winsAre(x, "665432", 5, 4);
        winsAre(x, "665543", 4, 16);
        winsAre(x, "666621", 2, 16);
        winsAre(x, "666661", 1, 32);
        winsAre(x, "666551", 1, 32);
        winsAre(x, "100000", 1, 1);
    }

    private static void lawMiddle() {
        DUE.about("2: the middle one of all that are, of two middle ones the lesser");
        LeastAlone x = Inns.at(6, 6, 2);
        winsAre(x, "600000", 6, 1);
        winsAre(x, "650000", 5, 2);
        winsAre(x, "160000", 1, 1);
        winsAre(x, "651000", 5, 2);
        winsAre(x, "126000", 2, 2);
        winsAre(x, "126500", 2, 2);
        winsAre(x, "123600", 2, 2);
        winsAre(x, "654300", 4, 4);
        winsAre(x, "123450", 3, 4);
        winsAre(x, "234560", 4, 4);
        winsAre(x, "123456", 3, 4);
        // What several wrote is not among them.
        winsAre(x, "112345", 3, 8);
        winsAre(x, "111234", 3, 16);
        winsAre(x, "115566", NONE, NONE);
    }

    private static void lawJustTwo() {
        DUE.about("3: the least that just two have written, both win");
        LeastAlone x = Inns.at(6, 6, 3);
        winsAre(x, "110000", 1, 3);
        winsAre(x, "100001", 1, 33);
        winsAre(x, "112233", 1, 3);
        winsAre(x, "332211", 1, 48);
        winsAre(x, "111266", 6, 48);
        winsAre(x, "111122", 2, 48);
        winsAre(x, "123466", 6, 48);
        winsAre(x, "111222", NONE, NONE);
        winsAre(x, "111112", NONE, NONE);
        winsAre(x, "123456", NONE, NONE);
    }

    private static void nobodyWins() {
        DUE.about("NOBODY wins, if there is no such NUMBER");
        for (int n = 2; n <= 6; n++) {
            for (int law = 0; law <= 3; law++) {
                LeastAlone x = Inns.at(n, 6, law);
                winsAre(x, "000000".substring(0, n), NONE, NONE);
                boolean both = n == 2 && law == 3;
                winsAre(x, "666666".substring(0, n), both ? 6 : NONE, both ? 3 : NONE);
                if (law < 3 && n == 4) {
                    winsAre(x, "6161", NONE, NONE);
                    winsAre(x, "6060", NONE, NONE);
                }
            }
        }
    }
}
