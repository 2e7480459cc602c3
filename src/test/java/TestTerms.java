/** 'Terms', first paragraph: which refusal comes first, that a refused call changes nothing, how fractions are told. */
public final class TestTerms {
    private static final Due DUE = new Due();
    private static final long LOST = LeastAlone.LOST;
    private static final int UNKNOWN = LeastAlone.UNKNOWN;
    private static final int OUTSIDE = LeastAlone.OUTSIDE;
    private static final int NO = LeastAlone.NO;
    private static final int STATE = LeastAlone.STATE;
    private static final int FULL = LeastAlone.FULL;

    /** A refused call: its name, a, b, c, the refusal. */
    private record Refused(String call, int a, int b, int c, int refusal) {
        String text() {
            return Calls.text(call, a, b, c);
        }

        long due() {
            return Calls.isFraction(call) ? LOST + refusal : refusal;
        }
    }

    /** At the inn of three men and four numbers with slips and one image. */
    private static final Refused[] AT_SLIPS = {
        new Refused("inn", 1, 3, 0, OUTSIDE), new Refused("inn", 7, 3, 0, OUTSIDE),
        new Refused("inn", 3, 1, 0, OUTSIDE), new Refused("inn", 3, 7, 0, OUTSIDE),
        new Refused("rule", -1, 0, 0, OUTSIDE), new Refused("rule", 4, 0, 0, OUTSIDE),
        new Refused("say", 32, 0, 0, OUTSIDE), new Refused("say", 127, 0, 0, OUTSIDE),
        new Refused("wins", -1, 0, 0, OUTSIDE), new Refused("wins", 2, 0, 0, OUTSIDE),
        new Refused("wins", 0, 0, 0, STATE), new Refused("wins", 1, 0, 0, STATE),
        new Refused("weight", 0, 1, 0, UNKNOWN), new Refused("weight", 5, 1, 0, UNKNOWN),
        new Refused("weight", 2, -1, 0, OUTSIDE), new Refused("weight", 2, 10, 0, OUTSIDE),
        new Refused("weight", 2, 9, 0, OUTSIDE),
        new Refused("fool", -1, 1, 0, UNKNOWN), new Refused("fool", 3, 1, 0, UNKNOWN),
        new Refused("fool", 1, -1, 0, UNKNOWN), new Refused("fool", 1, 5, 0, UNKNOWN),
        new Refused("worth", -1, 1, 0, UNKNOWN), new Refused("worth", 3, 1, 0, UNKNOWN),
        new Refused("worth", 0, 0, 0, UNKNOWN), new Refused("worth", 0, 5, 0, UNKNOWN),
        new Refused("worth", 0, 1, -1, OUTSIDE), new Refused("worth", 0, 1, 2, OUTSIDE),
        new Refused("best", -1, 0, 0, UNKNOWN), new Refused("best", 3, 0, 0, UNKNOWN),
        new Refused("mean", -1, 0, 0, UNKNOWN), new Refused("mean", 3, 0, 0, UNKNOWN),
        new Refused("mean", 0, 2, 0, OUTSIDE), new Refused("mean", 0, 0, 2, OUTSIDE),
        new Refused("nobody", -1, 0, 0, OUTSIDE), new Refused("nobody", 2, 0, 0, OUTSIDE),
        new Refused("rest", 1, 0, 0, UNKNOWN), new Refused("rest", 1, 5, 0, UNKNOWN),
        new Refused("rest", 0, 1, 0, OUTSIDE), new Refused("rest", 9, 1, 0, OUTSIDE),
        new Refused("gap", 0, 0, 0, OUTSIDE), new Refused("gap", 9, 0, 0, OUTSIDE), new Refused("gap", 1, 2, 0, OUTSIDE),
        new Refused("friends", 7, 3, 0, UNKNOWN), new Refused("friends", 6, 0, 0, UNKNOWN),
        new Refused("friends", 0, 0, 0, OUTSIDE), new Refused("friends", 8, 0, 0, OUTSIDE),
        new Refused("league", 0, 0, 0, OUTSIDE), new Refused("league", 8, 0, 0, OUTSIDE),
        new Refused("league", 1, 2, 0, OUTSIDE),
        new Refused("spy", -1, 0, 0, UNKNOWN), new Refused("spy", 3, 0, 0, UNKNOWN),
        new Refused("spied", 3, 0, 0, UNKNOWN), new Refused("spied", 0, 2, 0, OUTSIDE),
        new Refused("steps", 0, 0, 0, OUTSIDE), new Refused("steps", 21, 0, 0, OUTSIDE),
        new Refused("late", 3, 0, 0, UNKNOWN), new Refused("late", 0, 2, 0, OUTSIDE),
        new Refused("prize", 0, 0, 0, OUTSIDE), new Refused("prize", 1000, 0, 0, OUTSIDE),
        new Refused("prize", 1, -1, 0, OUTSIDE), new Refused("prize", 1, 100, 0, OUTSIDE),
        new Refused("prize", 1, 0, 2, OUTSIDE),
        new Refused("seen", 0, 3, 1, UNKNOWN), new Refused("seen", 1, 0, 5, UNKNOWN),
        new Refused("seen", -1, 0, 1, OUTSIDE), new Refused("seen", 3, 0, 1, OUTSIDE),
        new Refused("could", -1, 0, 0, UNKNOWN), new Refused("could", 3, 0, 0, UNKNOWN),
        new Refused("year", 0, 1, -2, UNKNOWN), new Refused("year", 0, 1, 3, UNKNOWN),
        new Refused("year", -1, 1, 0, OUTSIDE), new Refused("year", 10000, 1, 0, OUTSIDE),
        new Refused("year", 0, 0, 0, OUTSIDE), new Refused("year", 0, 100, 0, OUTSIDE),
        new Refused("image", -1, 0, 0, OUTSIDE), new Refused("image", 2, 0, 0, OUTSIDE),
        new Refused("restore", -1, 0, 0, OUTSIDE), new Refused("restore", 2, 0, 0, OUTSIDE),
        new Refused("restore", 1, 0, 0, STATE),
        new Refused("told", -1, 0, 0, OUTSIDE), new Refused("told", 15, 0, 0, OUTSIDE), new Refused("told", 23, 0, 0, OUTSIDE)
    };

    /** With a full pad, which is no slips, six sights, and one number that all write. */
    private static final Refused[] AT_FULL = {
        new Refused("say", '1', 0, 0, FULL), new Refused("say", 126, 0, 0, FULL),
        new Refused("wins", 0, 0, 0, NO), new Refused("wins", 1, 0, 0, NO),
        new Refused("weight", 1, 0, 0, OUTSIDE),
        new Refused("spy", 0, 0, 0, NO), new Refused("spied", 0, 0, 0, NO), new Refused("spied", 0, 1, 0, NO),
        new Refused("prize", 1, 0, 0, STATE), new Refused("prize", 1, 1, 1, STATE),
        new Refused("seen", 0, 0, 1, FULL), new Refused("seen", 1, 0, 1, FULL), new Refused("seen", 2, 0, 0, FULL),
        new Refused("restore", 0, 0, 0, STATE), new Refused("restore", 1, 0, 0, STATE),
        // Two refusals and more fit: the first of UNKNOWN, OUTSIDE, NO, STATE, FULL.
        new Refused("say", 32, 0, 0, OUTSIDE), new Refused("say", 127, 0, 0, OUTSIDE),
        new Refused("wins", 2, 0, 0, OUTSIDE), new Refused("wins", -1, 0, 0, OUTSIDE),
        new Refused("weight", 0, 10, 0, UNKNOWN), new Refused("weight", 3, -1, 0, UNKNOWN),
        new Refused("fool", 2, 3, 0, UNKNOWN),
        new Refused("worth", 2, 1, 2, UNKNOWN), new Refused("worth", 0, 3, 2, UNKNOWN), new Refused("worth", -1, 0, -1, UNKNOWN),
        new Refused("mean", 2, 2, 0, UNKNOWN), new Refused("mean", 2, 0, 2, UNKNOWN), new Refused("mean", -1, 2, 2, UNKNOWN),
        new Refused("rest", 0, 0, 0, UNKNOWN), new Refused("rest", 9, 3, 0, UNKNOWN),
        new Refused("friends", 0, 2, 0, UNKNOWN), new Refused("friends", 4, -1, 0, UNKNOWN),
        new Refused("spy", 2, 0, 0, UNKNOWN), new Refused("spy", -1, 0, 0, UNKNOWN),
        new Refused("spied", 2, 2, 0, UNKNOWN), new Refused("spied", 2, 0, 0, UNKNOWN), new Refused("spied", 0, 2, 0, OUTSIDE),
        new Refused("late", 2, 2, 0, UNKNOWN), new Refused("late", -1, -1, 0, UNKNOWN),
        new Refused("prize", 0, 0, 0, OUTSIDE), new Refused("prize", 1, 100, 0, OUTSIDE), new Refused("prize", 1, 0, 2, OUTSIDE),
        new Refused("seen", 0, 2, 1, UNKNOWN), new Refused("seen", 1, 0, 3, UNKNOWN), new Refused("seen", 3, 2, 3, UNKNOWN),
        new Refused("seen", 3, 0, 1, OUTSIDE), new Refused("seen", -1, 0, 1, OUTSIDE),
        new Refused("year", -1, 0, 2, UNKNOWN), new Refused("year", 10000, 100, -2, UNKNOWN),
        new Refused("restore", 2, 0, 0, OUTSIDE), new Refused("restore", -1, 0, 0, OUTSIDE)
    };

    public static void main(String[] args) {
        numbersOfRefusals();
        for (Refused refused : AT_SLIPS) {
            refuse(refused, true);
        }
        for (Refused refused : AT_FULL) {
            refuse(refused, false);
        }
        noFaultComesBeforeStateOfWins();
        lowestTerms();
        DUE.end("TestTerms");
    }

    private static void numbersOfRefusals() {
        DUE.about("UNKNOWN -1, OUTSIDE -2, NO -5, STATE -3, FULL -4");
        DUE.is("UNKNOWN", UNKNOWN, -1);
        DUE.is("OUTSIDE", OUTSIDE, -2);
        DUE.is("STATE", STATE, -3);
        DUE.is("FULL", FULL, -4);
        DUE.is("NO", NO, -5);
        DUE.is("NONE", LeastAlone.NONE, -6);
        DUE.is("LOST", LOST, -1000000000000000000L);
    }

    private static LeastAlone withSlips() {
        LeastAlone x = Inns.at(3, 4, 2);
        Inns.weigh(x, 3, 1, 2, 0);
        x.fool(1, 2);
        x.seen(0, 0, 3);
        x.seen(1, 2, 4);
        x.image(0);
        x.rule(1);
        x.fool(2, 4);
        x.weight(4, 1);
        x.seen(2, 0, 0);
        Inns.write(x, "1?2");
        return x;
    }

    private static LeastAlone withAllFull() {
        LeastAlone x = Inns.at(2, 2, 0);
        Inns.weigh(x, 3, 0);
        for (int i = 0; i < 48; i++) {
            x.say(i == 1 ? '?' : '1');
        }
        for (int i = 0; i < 6; i++) {
            x.seen(1, 0, 1);
        }
        return x;
    }

    private static void refuse(Refused refused, boolean slips) {
        LeastAlone twin = slips ? withSlips() : withAllFull();
        LeastAlone x = slips ? withSlips() : withAllFull();
        DUE.about("refused, the first that fits");
        DUE.is(refused.text(), Calls.ask(x, refused.call(), refused.a(), refused.b(), refused.c()), refused.due());
        DUE.about("a refused call changes nothing");
        String got = allThatShows(x);
        String want = allThatShows(twin);
        if (!got.equals(want)) {
            System.out.println(got);
            System.out.println(want);
        }
        DUE.holds(refused.text(), got.equals(want));
    }

    /** All that an object answers, of what it holds now, of its pad and of its images. */
    private static String allThatShows(LeastAlone x) {
        StringBuilder all = new StringBuilder();
        tellState(x, all);
        all.append(" pad ").append(x.fault());
        for (int man = 0; man < 3; man++) {
            all.append(' ').append(x.spied(man, 0)).append('/').append(x.spied(man, 1));
        }
        all.append(x.say('1')).append(' ').append(x.wipe());
        for (int n = 0; n < 2; n++) {
            all.append(" image ").append(x.restore(n)).append(' ');
            tellState(x, all);
        }
        return all.toString();
    }

    private static void tellState(LeastAlone x, StringBuilder all) {
        for (int what = 0; what <= 26; what++) {
            all.append(x.told(what)).append(' ');
        }
        for (int man = -1; man < 4; man++) {
            all.append(x.fits(man)).append(' ').append(x.could(man)).append(' ').append(x.best(man)).append(' ');
        }
        all.append(x.nobody(0)).append('/').append(x.nobody(1)).append(' ').append(x.year(1, 50, -1));
    }

    private static void noFaultComesBeforeStateOfWins() {
        DUE.about("NO comes ahead of STATE");
        LeastAlone x = new LeastAlone();
        Inns.write(x, "?");
        DUE.is("wins(0) of ?", x.wins(0), NO);
        Inns.write(x, "????");
        DUE.is("wins(0) of ????", x.wins(0), STATE);
        Inns.write(x, "?????");
        DUE.is("wins(0) of ?????", x.wins(0), NO);
    }

    private static long divisor(long a, long b) {
        return b == 0 ? a : divisor(b, a % b);
    }

    private static void isLowest(String call, long upper, long lower) {
        DUE.holds(call + " " + upper + "/" + lower + ": upper from 0, lower from 1 on", upper >= 0 && lower >= 1);
        DUE.is(call + " " + upper + "/" + lower + ": common divisor", divisor(upper, lower), 1);
    }

    private static void lowestTerms() {
        DUE.about("fractions are told in lowest terms");
        int[][] weights = {{1, 1, 1}, {2, 2, 2}, {6, 0, 6}, {0, 0, 9}, {4, 4, 4}, {9, 3, 0}, {1, 2, 9}};
        for (int[] w : weights) {
            for (int law = 0; law <= 3; law++) {
                lowestTermsBy(law, 0, w);
                lowestTermsBy(law, 2, w);
            }
        }
    }

    private static void lowestTermsBy(int law, int fool, int[] weights) {
        LeastAlone x = Inns.at(3, 3, law);
        Inns.weigh(x, weights);
        x.fool(1, fool);
        Inns.write(x, "?0?");
        for (int i = 0; i < 3; i++) {
            isLowest("worth", x.worth(i, 3 - i, 0), x.worth(i, 3 - i, 1));
            isLowest("mean", x.mean(i, 0, 0), x.mean(i, 0, 1));
            isLowest("mean", x.mean(i, 1, 0), x.mean(i, 1, 1));
            isLowest("spied", x.spied(i, 0), x.spied(i, 1));
            isLowest("league", x.league(7 - i, 0), x.league(7 - i, 1));
            isLowest("gap", x.gap(i + 1, 0), x.gap(i + 1, 1));
        }
        isLowest("nobody", x.nobody(0), x.nobody(1));
        if (x.nobody(0) == x.nobody(1)) {
            DUE.is("prize(12, 0, 0)", x.prize(12, 0, 0), LOST + STATE);
        } else {
            isLowest("prize", x.prize(12, 0, 0), x.prize(12, 0, 1));
            isLowest("prize", x.prize(12, 50, 0), x.prize(12, 50, 1));
        }
    }
}
