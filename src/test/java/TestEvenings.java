/** Promises 1 to 7: a new object, inn, rule, say, wipe, fault, wins. */
public final class TestEvenings {
    private static final Due DUE = new Due();

    public static void main(String[] args) {
        newObject();
        inn();
        innKeepsTheRest();
        rule();
        sayAndWipe();
        fault();
        faultByTheInn();
        wins();
        winsByLaws();
        winsRefused();
        DUE.end("TestEvenings");
    }

    private static void newObject() {
        LeastAlone x = new LeastAlone();
        DUE.is("new: signs", x.told(0), 0);
        DUE.is("new: men", x.told(1), 4);
        DUE.is("new: numbers", x.told(2), 5);
        DUE.is("new: law", x.told(3), 0);
        DUE.is("new: sights", x.told(4), 0);
        for (int number = 1; number <= 5; number++) {
            DUE.is("new: weight of " + number, x.told(10 + number), 1);
        }
        for (int man = 0; man < 4; man++) {
            DUE.is("new: fool " + man, x.told(20 + man), 0);
        }
        DUE.is("new: no image 0", x.restore(0), LeastAlone.STATE);
        DUE.is("new: no image 1", x.restore(1), LeastAlone.STATE);
    }

    private static void inn() {
        LeastAlone x = new LeastAlone();
        DUE.is("inn(6, 2)", x.inn(6, 2), 45);
        DUE.is("inn(2, 6)", x.inn(2, 6), 62);
        int[][] wrong = {{1, 3}, {7, 3}, {3, 1}, {3, 7}, {0, 0}, {-1, 6}, {Integer.MIN_VALUE, 3}, {3, Integer.MAX_VALUE}};
        for (int[] w : wrong) {
            DUE.is("inn(" + w[0] + ", " + w[1] + ")", x.inn(w[0], w[1]), LeastAlone.OUTSIDE);
        }
        DUE.is("refused inn: men", x.told(1), 2);
        DUE.is("refused inn: numbers", x.told(2), 6);
        x.weight(3, 4);
        x.fool(1, 5);
        x.seen(2, 0, 0);
        DUE.is("inn(7, 2) refused", x.inn(7, 2), LeastAlone.OUTSIDE);
        DUE.is("refused inn: weight", x.told(13), 4);
        DUE.is("refused inn: fool", x.told(21), 5);
        DUE.is("refused inn: sights", x.told(4), 1);
        DUE.is("inn(2, 6) again", x.inn(2, 6), 26);
        DUE.is("inn: weights are 1", x.told(13), 1);
        DUE.is("inn: fools go", x.told(21), 0);
        DUE.is("inn: sights go", x.told(4), 0);
        DUE.is("inn(6, 6)", x.inn(6, 6), 26);
        for (int number = 1; number <= 6; number++) {
            DUE.is("inn(6, 6): weight of " + number, x.told(10 + number), 1);
        }
        DUE.is("inn(6, 6): man 5 is no fool", x.told(25), 0);
    }

    private static void innKeepsTheRest() {
        LeastAlone x = new LeastAlone();
        x.rule(2);
        x.image(1);
        Inns.write(x, "12");
        x.inn(2, 3);
        DUE.is("inn keeps the law", x.told(3), 2);
        DUE.is("inn keeps the pad", x.told(0), 2);
        DUE.is("inn keeps the image", x.restore(1), 1);
        DUE.is("men of the image", x.told(1), 4);
        x.inn(2, 2);
        x.fool(1, 2);
        x.inn(6, 2);
        x.inn(2, 2);
        DUE.is("no fool comes back", x.told(21), 0);
    }

    private static void rule() {
        LeastAlone x = new LeastAlone();
        DUE.is("rule(3)", x.rule(3), 0);
        DUE.is("rule(4)", x.rule(4), LeastAlone.OUTSIDE);
        DUE.is("rule(-1)", x.rule(-1), LeastAlone.OUTSIDE);
        DUE.is("told(3)", x.told(3), 3);
        DUE.is("rule(1)", x.rule(1), 3);
        DUE.is("rule(2)", x.rule(2), 1);
        DUE.is("rule(0)", x.rule(0), 2);
    }

    private static void sayAndWipe() {
        LeastAlone x = new LeastAlone();
        DUE.is("say(33)", x.say(33), 1);
        DUE.is("say(126)", x.say(126), 2);
        DUE.is("say(32)", x.say(32), LeastAlone.OUTSIDE);
        DUE.is("say(127)", x.say(127), LeastAlone.OUTSIDE);
        DUE.is("say(-49)", x.say(-49), LeastAlone.OUTSIDE);
        DUE.is("say(65585)", x.say(65585), LeastAlone.OUTSIDE);
        DUE.is("told(0)", x.told(0), 2);
        for (int i = 3; i <= 48; i++) {
            DUE.is("sign " + i, x.say('1'), i);
        }
        DUE.is("sign 49", x.say('1'), LeastAlone.FULL);
        DUE.is("sign 49, wrong", x.say(32), LeastAlone.OUTSIDE);
        DUE.is("told(0) full", x.told(0), 48);
        DUE.is("wipe() full", x.wipe(), 48);
        DUE.is("wipe() again", x.wipe(), 0);
        DUE.is("told(0) wiped", x.told(0), 0);
        DUE.is("say after wipe", x.say('1'), 1);
    }

    private static void faultOf(LeastAlone x, String slips, int want) {
        Inns.write(x, slips);
        DUE.is("fault of " + slips, x.fault(), want);
    }

    private static void fault() {
        LeastAlone x = new LeastAlone();
        faultOf(x, "", 0);
        faultOf(x, "1", 1);
        faultOf(x, "123", 3);
        faultOf(x, "0?5?", LeastAlone.NONE);
        faultOf(x, "0000", LeastAlone.NONE);
        faultOf(x, "1234?", 4);
        faultOf(x, "12346", 4);
        faultOf(x, "126", 2);
        faultOf(x, "1264", 2);
        faultOf(x, "6", 0);
        faultOf(x, "/123", 0);
        faultOf(x, ":123", 0);
        faultOf(x, "1>23", 1);
        faultOf(x, "12@3", 2);
        faultOf(x, "111!", 3);
        faultOf(x, "1239", 3);
    }

    private static void faultByTheInn() {
        LeastAlone x = new LeastAlone();
        Inns.write(x, "125");
        DUE.is("125 of four", x.fault(), 3);
        x.inn(3, 5);
        DUE.is("125 of three", x.fault(), LeastAlone.NONE);
        x.inn(3, 4);
        DUE.is("125 of three, four numbers", x.fault(), 2);
        x.inn(2, 6);
        DUE.is("125 of two", x.fault(), 2);
        x.inn(6, 6);
        DUE.is("125 of six", x.fault(), 3);
        faultOf(x, "666666", LeastAlone.NONE);
        faultOf(x, "666667", 5);
    }

    private static void winsAre(LeastAlone x, String slips, int number, int men) {
        Inns.write(x, slips);
        DUE.is("wins(0) of " + slips, x.wins(0), number);
        DUE.is("wins(1) of " + slips, x.wins(1), men);
    }

    private static void wins() {
        LeastAlone x = new LeastAlone();
        int none = LeastAlone.NONE;
        winsAre(x, "1234", 1, 1);
        winsAre(x, "1123", 2, 4);
        winsAre(x, "0000", none, none);
        winsAre(x, "1122", none, none);
        winsAre(x, "1110", none, none);
        winsAre(x, "0005", 5, 8);
        winsAre(x, "5554", 4, 8);
        x.fool(0, 1);
        x.weight(5, 0);
        winsAre(x, "5554", 4, 8);
    }

    private static void winsByLaws() {
        LeastAlone x = new LeastAlone();
        int none = LeastAlone.NONE;
        x.inn(6, 6);
        winsAre(x, "654320", 2, 16);
        winsAre(x, "654321", 1, 32);
        x.rule(1);
        winsAre(x, "012345", 5, 32);
        winsAre(x, "123456", 6, 32);
        winsAre(x, "126645", 5, 32);
        winsAre(x, "111222", none, none);
        x.rule(2);
        winsAre(x, "654321", 3, 8);
        winsAre(x, "123450", 3, 4);
        winsAre(x, "610024", 2, 16);
        winsAre(x, "600002", 2, 32);
        winsAre(x, "306000", 3, 1);
        winsAre(x, "600000", 6, 1);
        winsAre(x, "224455", none, none);
        x.rule(3);
        winsAre(x, "665544", 4, 48);
        winsAre(x, "111226", 2, 24);
        winsAre(x, "332205", 2, 12);
        winsAre(x, "111666", none, none);
        winsAre(x, "123456", none, none);
        winsAre(x, "000000", none, none);
        winsAre(x, "600006", 6, 33);
    }

    private static void winsRefused() {
        LeastAlone x = new LeastAlone();
        DUE.is("wins(2) with a fault", x.wins(2), LeastAlone.OUTSIDE);
        DUE.is("wins(-1)", x.wins(-1), LeastAlone.OUTSIDE);
        DUE.is("wins(0) without slips", x.wins(0), LeastAlone.NO);
        Inns.write(x, "12?");
        DUE.is("wins(0) of 12?", x.wins(0), LeastAlone.NO);
        x.say('3');
        DUE.is("wins(0) of 12?3", x.wins(0), LeastAlone.STATE);
        DUE.is("wins(1) of 12?3", x.wins(1), LeastAlone.STATE);
        DUE.is("wins(2) of 12?3", x.wins(2), LeastAlone.OUTSIDE);
        x.say('3');
        DUE.is("wins(0) of 12?33", x.wins(0), LeastAlone.NO);
        DUE.is("refused wins keeps the pad", x.told(0), 5);
        Inns.write(x, "?123");
        DUE.is("wins(0) of ?123", x.wins(0), LeastAlone.STATE);
        Inns.write(x, "012?");
        DUE.is("wins(1) of 012?", x.wins(1), LeastAlone.STATE);
        // What was wiped from the pad does not count.
        Inns.write(x, "1234?");
        Inns.write(x, "1234");
        DUE.is("wins(0) of 1234", x.wins(0), 1);
    }
}
