import java.util.ArrayList;
import java.util.HashMap;
import java.util.List;
import java.util.Map;

/** The document once more, by going through every row of slips one by one: slow, but plain to read. */
final class Plain {
    private static final long LOST = -1000000000000000000L;
    private static final Map<String, long[]> RESTS = new HashMap<>();

    interface Row {
        void meet(int[] slips, long ways);
    }

    private static final class State {
        int n = 4;
        int m = 5;
        int law = 0;
        int[] weights = {0, 1, 1, 1, 1, 1, 0};
        int[] fools = new int[6];
        List<int[]> sights = new ArrayList<>();

        State copy() {
            State s = new State();
            s.n = n;
            s.m = m;
            s.law = law;
            s.weights = weights.clone();
            s.fools = fools.clone();
            s.sights = new ArrayList<>(sights);
            return s;
        }
    }

    private State now = new State();
    private final State[] images = new State[2];
    private final StringBuilder pad = new StringBuilder();

    // ---- laws

    static int winner(int law, int[] slips, int m) {
        List<Integer> may = new ArrayList<>();
        for (int v = 1; v <= m; v++) {
            int times = 0;
            for (int slip : slips) {
                if (slip == v) {
                    times++;
                }
            }
            if (times == (law == 3 ? 2 : 1)) {
                may.add(v);
            }
        }
        if (may.isEmpty()) {
            return 0;
        }
        if (law == 1) {
            return may.get(may.size() - 1);
        }
        if (law == 2) {
            return may.get((may.size() - 1) / 2);
        }
        return may.get(0);
    }

    /** 2: he wins, 1: he wins half, 0: he does not. */
    private int halves(int[] slips, int man) {
        int v = winner(now.law, slips, now.m);
        return v == 0 || slips[man] != v ? 0 : now.law == 3 ? 1 : 2;
    }

    private static int bits(int[] slips, int number) {
        int bits = 0;
        for (int i = 0; i < slips.length; i++) {
            if (slips[i] == number) {
                bits |= 1 << i;
            }
        }
        return bits;
    }

    // ---- rows of slips: fixed[i] is a number, 0 for nothing, -1 for one who writes by weights

    private static void each(int[] fixed, int[] weights, int m, int man, int[] slips, long ways, Row row) {
        if (man == fixed.length) {
            row.meet(slips, ways);
            return;
        }
        if (fixed[man] >= 0) {
            slips[man] = fixed[man];
            each(fixed, weights, m, man + 1, slips, ways, row);
            return;
        }
        for (int v = 1; v <= m; v++) {
            if (weights[v] > 0) {
                slips[man] = v;
                each(fixed, weights, m, man + 1, slips, ways * weights[v], row);
            }
        }
    }

    /** What the men of a set win, in halves (at 0), by all ways (at 1). */
    private long[] halvesOf(int set, int[] fixed, int[] weights) {
        long[] sum = new long[2];
        each(fixed, weights, now.m, 0, new int[fixed.length], 1, (slips, ways) -> {
            sum[1] += ways;
            for (int i = 0; i < slips.length; i++) {
                if ((set >> i & 1) != 0) {
                    sum[0] += ways * halves(slips, i);
                }
            }
        });
        return sum;
    }

    private int[] byWeights(boolean fools) {
        int[] fixed = new int[now.n];
        for (int i = 0; i < now.n; i++) {
            fixed[i] = fools && now.fools[i] != 0 ? now.fools[i] : -1;
        }
        return fixed;
    }

    private long[] worthOf(int man, int number, int[] others, int[] weights) {
        int[] fixed = others.clone();
        fixed[man] = number;
        long[] sum = halvesOf(1 << man, fixed, weights);
        return new long[] {sum[0], 2 * sum[1]};
    }

    private int bestOf(int man, int[] others, int[] weights) {
        int best = 1;
        long most = -1;
        for (int v = 1; v <= now.m; v++) {
            long upper = worthOf(man, v, others, weights)[0];
            if (upper > most) {
                most = upper;
                best = v;
            }
        }
        return best;
    }

    private long[] meanOf(int man, int[] others, int[] weights) {
        long upper = 0;
        long lower = 0;
        long all = 0;
        for (int v = 1; v <= now.m; v++) {
            long[] w = worthOf(man, v, others, weights);
            upper += w[0] * weights[v];
            lower = w[1];
            all += weights[v];
        }
        return new long[] {upper, lower * all};
    }

    private long[] gapOf(int man, int[] others, int[] weights) {
        long[] top = worthOf(man, bestOf(man, others, weights), others, weights);
        long[] mean = meanOf(man, others, weights);
        return new long[] {top[0] * (mean[1] / top[1]) - mean[0], mean[1]};
    }

    private static long tell(long[] fraction, int part) {
        long a = fraction[0];
        long b = fraction[1];
        while (b != 0) {
            long r = a % b;
            a = b;
            b = r;
        }
        return fraction[part] / a;
    }

    // ---- refusals

    private boolean noMan(int man) {
        return man < 0 || man >= now.n;
    }

    private boolean noNumber(int v) {
        return v < 1 || v > now.m;
    }

    private static boolean out(int v, int from, int to) {
        return v < from || v > to;
    }

    // ---- the calls

    int inn(int n, int m) {
        if (out(n, 2, 6) || out(m, 2, 6)) {
            return -2;
        }
        int was = now.n * 10 + now.m;
        int law = now.law;
        now = new State();
        now.n = n;
        now.m = m;
        now.law = law;
        for (int v = 1; v <= 6; v++) {
            now.weights[v] = v <= m ? 1 : 0;
        }
        return was;
    }

    int rule(int v) {
        if (out(v, 0, 3)) {
            return -2;
        }
        int was = now.law;
        now.law = v;
        return was;
    }

    int say(int sign) {
        if (out(sign, 33, 126)) {
            return -2;
        }
        if (pad.length() == 48) {
            return -4;
        }
        pad.append((char) sign);
        return pad.length();
    }

    int wipe() {
        int was = pad.length();
        pad.setLength(0);
        return was;
    }

    int fault() {
        String may = "?0123456".substring(0, 2 + now.m);
        for (int i = 0; i < pad.length(); i++) {
            if (i >= now.n || may.indexOf(pad.charAt(i)) < 0) {
                return i;
            }
        }
        return pad.length() < now.n ? pad.length() : -6;
    }

    private int[] padSlips() {
        int[] slips = new int[now.n];
        for (int i = 0; i < now.n; i++) {
            slips[i] = pad.charAt(i) == '?' ? -1 : pad.charAt(i) - '0';
        }
        return slips;
    }

    int wins(int what) {
        if (out(what, 0, 1)) {
            return -2;
        }
        if (fault() != -6) {
            return -5;
        }
        if (pad.indexOf("?") >= 0) {
            return -3;
        }
        int v = winner(now.law, padSlips(), now.m);
        return v == 0 ? -6 : what == 0 ? v : bits(padSlips(), v);
    }

    int weight(int number, int v) {
        if (noNumber(number)) {
            return -1;
        }
        int all = v;
        for (int i = 1; i <= now.m; i++) {
            all += i == number ? 0 : now.weights[i];
        }
        if (out(v, 0, 9) || out(all, 1, 12)) {
            return -2;
        }
        int was = now.weights[number];
        now.weights[number] = v;
        return was;
    }

    int fool(int man, int number) {
        if (noMan(man) || out(number, 0, now.m)) {
            return -1;
        }
        int was = now.fools[man];
        now.fools[man] = number;
        return was;
    }

    long worth(int man, int number, int part) {
        if (noMan(man) || noNumber(number)) {
            return LOST - 1;
        }
        return out(part, 0, 1) ? LOST - 2 : tell(worthOf(man, number, byWeights(true), now.weights), part);
    }

    int best(int man) {
        return noMan(man) ? -1 : bestOf(man, byWeights(true), now.weights);
    }

    long mean(int man, int what, int part) {
        if (noMan(man)) {
            return LOST - 1;
        }
        if (out(what, 0, 1) || out(part, 0, 1)) {
            return LOST - 2;
        }
        int[] others = byWeights(true);
        return tell(what == 0 ? meanOf(man, others, now.weights) : gapOf(man, others, now.weights), part);
    }

    private long[] nobodyOf() {
        long[] sum = new long[2];
        int[] fixed = byWeights(true);
        each(fixed, now.weights, now.m, 0, new int[now.n], 1, (slips, ways) -> {
            sum[1] += ways;
            sum[0] += winner(now.law, slips, now.m) == 0 ? ways : 0;
        });
        return sum;
    }

    long nobody(int part) {
        return out(part, 0, 1) ? LOST - 2 : tell(nobodyOf(), part);
    }

    /** At 1 to m the weights, at 7 and 8 the gap. */
    private long[] restOf(int t) {
        String key = now.n + " " + now.m + " " + now.law + " " + t;
        if (!RESTS.containsKey(key)) {
            long[] found = new long[9];
            found[7] = -1;
            spread(new int[7], 1, t, found);
            RESTS.put(key, found);
        }
        return RESTS.get(key);
    }

    private void spread(int[] weights, int number, int left, long[] found) {
        if (number > now.m) {
            if (left == 0) {
                long[] gap = gapOf(0, byWeights(false), weights);
                if (found[7] < 0 || gap[0] * found[8] < found[7] * gap[1]) {
                    for (int v = 1; v <= now.m; v++) {
                        found[v] = weights[v];
                    }
                    found[7] = gap[0];
                    found[8] = gap[1];
                }
            }
            return;
        }
        for (int w = 0; w <= left; w++) {
            weights[number] = w;
            spread(weights, number + 1, left - w, found);
        }
        weights[number] = 0;
    }

    int rest(int t, int number) {
        return noNumber(number) ? -1 : out(t, 1, 8) ? -2 : (int) restOf(t)[number];
    }

    long gap(int t, int part) {
        if (out(t, 1, 8) || out(part, 0, 1)) {
            return LOST - 2;
        }
        return tell(new long[] {restOf(t)[7], restOf(t)[8]}, part);
    }

    /** The numbers of the men of the set, then the fraction. */
    private long[] pactOf(int set) {
        long[] found = new long[8];
        found[6] = -1;
        agree(set, 0, byWeights(true), found);
        return found;
    }

    private void agree(int set, int man, int[] fixed, long[] found) {
        if (man == now.n) {
            long[] sum = halvesOf(set, fixed, now.weights);
            if (sum[0] > found[6]) {
                for (int i = 0; i < now.n; i++) {
                    found[i] = fixed[i];
                }
                found[6] = sum[0];
                found[7] = 2 * sum[1];
            }
            return;
        }
        if ((set >> man & 1) == 0) {
            agree(set, man + 1, fixed, found);
            return;
        }
        for (int v = 1; v <= now.m; v++) {
            fixed[man] = v;
            agree(set, man + 1, fixed, found);
        }
    }

    int friends(int set, int man) {
        if (noMan(man)) {
            return -1;
        }
        if (out(set, 1, (1 << now.n) - 1)) {
            return -2;
        }
        return (set >> man & 1) == 0 ? -1 : (int) pactOf(set)[man];
    }

    long league(int set, int part) {
        if (out(set, 1, (1 << now.n) - 1) || out(part, 0, 1)) {
            return LOST - 2;
        }
        long[] found = pactOf(set);
        return tell(new long[] {found[6], found[7]}, part);
    }

    int spy(int man) {
        return noMan(man) ? -1 : fault() != -6 ? -5 : bestOf(man, padSlips(), now.weights);
    }

    long spied(int man, int part) {
        if (noMan(man)) {
            return LOST - 1;
        }
        if (out(part, 0, 1)) {
            return LOST - 2;
        }
        return fault() != -6 ? LOST - 5 : tell(worthOf(man, spy(man), padSlips(), now.weights), part);
    }

    int steps(int k) {
        if (out(k, 1, 20)) {
            return -2;
        }
        int[] others = byWeights(false);
        int number = bestOf(0, others, now.weights);
        for (int i = 2; i <= k; i++) {
            for (int j = 0; j < now.n; j++) {
                others[j] = number;
            }
            number = bestOf(0, others, now.weights);
        }
        return number;
    }

    /** The slips in the end, if this many have written. */
    private int[] play(int[] slips, int man) {
        if (man == now.n) {
            return slips.clone();
        }
        if (now.fools[man] != 0) {
            slips[man] = now.fools[man];
            return play(slips, man + 1);
        }
        int[] best = null;
        int most = -1;
        for (int v = 1; v <= now.m; v++) {
            slips[man] = v;
            int[] end = play(slips, man + 1);
            if (halves(end, man) > most) {
                most = halves(end, man);
                best = end;
            }
        }
        return best;
    }

    int late(int man, int what) {
        if (noMan(man)) {
            return -1;
        }
        if (out(what, 0, 1)) {
            return -2;
        }
        int[] slips = play(new int[now.n], 0);
        int v = winner(now.law, slips, now.m);
        return what == 0 ? slips[man] : v == 0 ? -6 : bits(slips, v);
    }

    long prize(int p, int c, int part) {
        if (out(p, 1, 999) || out(c, 0, 99) || out(part, 0, 1)) {
            return LOST - 2;
        }
        long[] none = nobodyOf();
        if (none[0] == none[1]) {
            return LOST - 3;
        }
        long hundredths = c == 0 ? 100 : c;
        return tell(new long[] {p * hundredths * none[1], 100 * (none[1] - none[0])}, part);
    }

    int seen(int how, int man, int number) {
        if (how != 2 && (noMan(man) || noNumber(number))) {
            return -1;
        }
        if (out(how, 0, 2)) {
            return -2;
        }
        if (now.sights.size() == 6) {
            return -4;
        }
        now.sights.add(new int[] {how, man, number});
        return now.sights.size();
    }

    int forget() {
        int was = now.sights.size();
        now.sights.clear();
        return was;
    }

    private boolean holds(int[] slips, int[] sight) {
        int v = winner(now.law, slips, now.m);
        if (sight[0] == 2) {
            return v == 0;
        }
        return slips[sight[1]] == sight[2] && (sight[0] == 1 || v == sight[2]);
    }

    private List<int[]> fitting() {
        List<int[]> rows = new ArrayList<>();
        each(byWeights(false), new int[] {0, 1, 1, 1, 1, 1, 1}, now.m, 0, new int[now.n], 1, (slips, ways) -> {
            for (int[] sight : now.sights) {
                if (!holds(slips, sight)) {
                    return;
                }
            }
            rows.add(slips.clone());
        });
        return rows;
    }

    int fits(int i) {
        List<int[]> rows = fitting();
        if (i == -1) {
            return rows.size();
        }
        return noMan(i) || rows.isEmpty() ? -6 : rows.get(0)[i];
    }

    int could(int man) {
        if (noMan(man)) {
            return -1;
        }
        int bits = 0;
        for (int[] row : fitting()) {
            bits |= 1 << row[man];
        }
        return bits;
    }

    int year(int seed, int e, int man) {
        if (man != -1 && noMan(man)) {
            return -1;
        }
        if (out(seed, 0, 9999) || out(e, 1, 99)) {
            return -2;
        }
        StringBuilder lots = new StringBuilder();
        for (int v = 1; v <= now.m; v++) {
            for (int i = 0; i < now.weights[v]; i++) {
                lots.append((char) ('0' + v));
            }
        }
        int found = 0;
        long x = seed;
        for (int i = 0; i < e; i++) {
            int[] slips = new int[now.n];
            for (int j = 0; j < now.n; j++) {
                x = (75 * x + 74) % 65537;
                slips[j] = now.fools[j] != 0 ? now.fools[j] : lots.charAt((int) (x % lots.length())) - '0';
            }
            int v = winner(now.law, slips, now.m);
            found += man == -1 ? (v == 0 ? 1 : 0) : v != 0 && slips[man] == v ? 1 : 0;
        }
        return found;
    }

    int image(int n) {
        if (out(n, 0, 1)) {
            return -2;
        }
        images[n] = now.copy();
        return 1;
    }

    int restore(int n) {
        if (out(n, 0, 1)) {
            return -2;
        }
        if (images[n] == null) {
            return -3;
        }
        now = images[n].copy();
        return 1;
    }

    int told(int what) {
        if (what >= 11 && what <= 10 + now.m) {
            return now.weights[what - 10];
        }
        if (what >= 20 && what < 20 + now.n) {
            return now.fools[what - 20];
        }
        int[] first = {pad.length(), now.n, now.m, now.law, now.sights.size()};
        return out(what, 0, 4) ? -2 : first[what];
    }
}
