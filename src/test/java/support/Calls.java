/** Every call of the face by its name, on the class and on the plain one; a call takes as many of a, b, c as it has. */
final class Calls {
    static final String[] NAMES = {
        "inn", "rule", "say", "wipe", "fault", "wins", "weight", "fool", "worth", "best", "mean", "nobody", "rest", "gap",
        "friends", "league", "spy", "spied", "steps", "late", "prize", "seen", "forget", "fits", "could", "year", "image",
        "restore", "told"
    };

    private Calls() {
    }

    static long ask(LeastAlone x, String call, int a, int b, int c) {
        return switch (call) {
            case "inn" -> x.inn(a, b);
            case "rule" -> x.rule(a);
            case "say" -> x.say(a);
            case "wipe" -> x.wipe();
            case "fault" -> x.fault();
            case "wins" -> x.wins(a);
            case "weight" -> x.weight(a, b);
            case "fool" -> x.fool(a, b);
            case "worth" -> x.worth(a, b, c);
            case "best" -> x.best(a);
            case "mean" -> x.mean(a, b, c);
            case "nobody" -> x.nobody(a);
            case "rest" -> x.rest(a, b);
            case "gap" -> x.gap(a, b);
            case "friends" -> x.friends(a, b);
            case "league" -> x.league(a, b);
            case "spy" -> x.spy(a);
            case "spied" -> x.spied(a, b);
            case "steps" -> x.steps(a);
            case "late" -> x.late(a, b);
            case "prize" -> x.prize(a, b, c);
            case "seen" -> x.seen(a, b, c);
            case "forget" -> x.forget();
            case "fits" -> x.fits(a);
            case "could" -> x.could(a);
            case "year" -> x.year(a, b, c);
            case "image" -> x.image(a);
            case "restore" -> x.restore(a);
            default -> x.told(a);
        };
    }

    static long ask(Plain y, String call, int a, int b, int c) {
        return switch (call) {
            case "inn" -> y.inn(a, b);
            case "rule" -> y.rule(a);
            case "say" -> y.say(a);
            case "wipe" -> y.wipe();
            case "fault" -> y.fault();
            case "wins" -> y.wins(a);
            case "weight" -> y.weight(a, b);
            case "fool" -> y.fool(a, b);
            case "worth" -> y.worth(a, b, c);
            case "best" -> y.best(a);
            case "mean" -> y.mean(a, b, c);
            case "nobody" -> y.nobody(a);
            case "rest" -> y.rest(a, b);
            case "gap" -> y.gap(a, b);
            case "friends" -> y.friends(a, b);
            case "league" -> y.league(a, b);
            case "spy" -> y.spy(a);
            case "spied" -> y.spied(a, b);
            case "steps" -> y.steps(a);
            case "late" -> y.late(a, b);
            case "prize" -> y.prize(a, b, c);
            case "seen" -> y.seen(a, b, c);
            case "forget" -> y.forget();
            case "fits" -> y.fits(a);
            case "could" -> y.could(a);
            case "year" -> y.year(a, b, c);
            case "image" -> y.image(a);
            case "restore" -> y.restore(a);
            default -> y.told(a);
        };
    }

    /** How many arguments a call has. */
    static int arguments(String call) {
        return switch (call) {
            case "wipe", "fault", "forget" -> 0;
            case "rule", "say", "wins", "best", "nobody", "spy", "steps", "fits", "could", "image", "restore", "told" -> 1;
            case "worth", "mean", "prize", "seen", "year" -> 3;
            default -> 2;
        };
    }

    /** Whether its refusals are told with LOST. */
    static boolean isFraction(String call) {
        return switch (call) {
            case "worth", "mean", "nobody", "gap", "league", "spied", "prize" -> true;
            default -> false;
        };
    }

    static String text(String call, int a, int b, int c) {
        return switch (arguments(call)) {
            case 0 -> call + "()";
            case 1 -> call + "(" + a + ")";
            case 2 -> call + "(" + a + ", " + b + ")";
            default -> call + "(" + a + ", " + b + ", " + c + ")";
        };
    }
}
