/**
 * Evenings at an inn: each man writes a number, and a law says which number wins the goose.
 * No call makes an object: every row that a call needs is made by the constructor and used again.
 */
public final class LeastAlone {
    public static final int NONE = -6, UNKNOWN = -1, OUTSIDE = -2, STATE = -3, FULL = -4, NO = -5;
    public static final long LOST = -1000000000000000000L;

    private static final int LEAST_SIZE = 2;
    private static final int MOST = 6;
    /** Rows by number: place 0 stands for nobody, or for a man who is not told. */
    private static final int ROW = MOST + 1;

    private static final int LAW_PAIR = 3;
    private static final int LAW_ROW = 8;
    /** Row law, place f: which of f numbers that may win does win, counted from the least on. */
    private static final int[] WINNING = {
        0, 1, 1, 1, 1, 1, 1, 1,
        0, 1, 2, 3, 4, 5, 6, 7,
        0, 1, 1, 2, 2, 3, 3, 4,
        0, 1, 1, 1, 1, 1, 1, 1
    };

    private static final int MOST_WEIGHT = 9;
    private static final int MOST_WEIGHTS = 12;
    private static final int MOST_SUM = 8;
    private static final int MOST_SIGNS = 48;
    private static final int FIRST_SIGN = 33;
    private static final int LAST_SIGN = 126;
    private static final int MOST_SIGHTS = 6;
    private static final int MOST_STEPS = 20;
    private static final int MOST_PRIZE = 999;
    private static final int HUNDRED = 100;
    private static final int MOST_SEED = 9999;
    private static final int MOST_EVENINGS = 99;

    private static final int SIGHT_WINS = 0;
    private static final int SIGHT_WROTE = 1;
    private static final int SIGHT_NOBODY = 2;

    private static final int TOLD_WEIGHTS = 10;
    private static final int TOLD_FOOLS = 20;

    /** Row a, place b: in how many ways b of a men can be chosen. */
    private static final int[] CHOOSE = {
        1, 0, 0, 0, 0, 0, 0,
        1, 1, 0, 0, 0, 0, 0,
        1, 2, 1, 0, 0, 0, 0,
        1, 3, 3, 1, 0, 0, 0,
        1, 4, 6, 4, 1, 0, 0,
        1, 5, 10, 10, 5, 1, 0,
        1, 6, 15, 20, 15, 6, 1
    };

    /** Row j, place s: how many rows of j counts have a sum below s. */
    private static final int[] BELOW = {
        0, 0, 0, 0, 0, 0, 0,
        0, 1, 2, 3, 4, 5, 6,
        0, 1, 3, 6, 10, 15, 21,
        0, 1, 4, 10, 20, 35, 56,
        0, 1, 5, 15, 35, 70, 126,
        0, 1, 6, 21, 56, 126, 252,
        0, 1, 7, 28, 84, 210, 462
    };
    /** How many rows of six counts have a sum of at most six. */
    private static final int COUNT_ROWS = 924;

    private static final int[] ONES = {0, 1, 1, 1, 1, 1, 1};

    private final Table now = new Table();
    private final Table[] images = {new Table(), new Table()};
    private final boolean[] kept = new boolean[2];
    private final int[] pad = new int[MOST_SIGNS];
    private int signs = 0;

    private final Evening evening = new Evening();
    private final Gains gains = new Gains();
    private final Winners winners = new Winners();
    private final Calm calm = new Calm();
    private final Pact pact = new Pact();
    private final Arrivals arrivals = new Arrivals();
    private final Fit fit = new Fit();

    public LeastAlone() {
    }

    // ---- 1 evenings

    public int inn(int n, int m) {
        if (!isSize(n) || !isSize(m)) {
            return OUTSIDE;
        }
        int was = now.men * 10 + now.numbers;
        now.open(n, m);
        return was;
    }

    public int rule(int v) {
        if (v < 0 || v > LAW_PAIR) {
            return OUTSIDE;
        }
        int was = now.law;
        now.law = v;
        return was;
    }

    public int say(int sign) {
        if (sign < FIRST_SIGN || sign > LAST_SIGN) {
            return OUTSIDE;
        }
        if (signs >= MOST_SIGNS) {
            return FULL;
        }
        pad[signs] = sign;
        signs++;
        return signs;
    }

    public int wipe() {
        int was = signs;
        signs = 0;
        return was;
    }

    public int fault() {
        for (int i = 0; i < signs && i < MOST_SIGNS; i++) {
            if (i >= now.men || !isSlip(pad[i])) {
                return i;
            }
        }
        return signs < now.men ? signs : NONE;
    }

    public int wins(int what) {
        if (!isBit(what)) {
            return OUTSIDE;
        }
        if (fault() != NONE) {
            return NO;
        }
        if (isUntold()) {
            return STATE;
        }
        evening.clear();
        for (int man = 0; man < now.men; man++) {
            evening.write(man, pad[man] - '0');
        }
        int number = winner(now.law, evening.counts, now.numbers);
        if (number == 0) {
            return NONE;
        }
        return what == 0 ? number : evening.writers(number);
    }

    // ---- 2 chances

    public int weight(int number, int v) {
        if (!now.hasNumber(number)) {
            return UNKNOWN;
        }
        if (v < 0 || v > MOST_WEIGHT) {
            return OUTSIDE;
        }
        int was = now.weights[number];
        int all = now.allWeights() - was + v;
        if (all < 1 || all > MOST_WEIGHTS) {
            return OUTSIDE;
        }
        now.weights[number] = v;
        return was;
    }

    public int fool(int man, int number) {
        if (!now.hasMan(man) || (number != 0 && !now.hasNumber(number))) {
            return UNKNOWN;
        }
        int was = now.fools[man];
        now.fools[man] = number;
        return was;
    }

    public long worth(int man, int number, int part) {
        if (!now.hasMan(man) || !now.hasNumber(number)) {
            return LOST + UNKNOWN;
        }
        if (!isBit(part)) {
            return LOST + OUTSIDE;
        }
        weighOthers(man);
        return lowest(gains.of[number], lower(gains.free), part);
    }

    public int best(int man) {
        if (!now.hasMan(man)) {
            return UNKNOWN;
        }
        weighOthers(man);
        return gains.top();
    }

    public long mean(int man, int what, int part) {
        if (!now.hasMan(man)) {
            return LOST + UNKNOWN;
        }
        if (!isBit(what) || !isBit(part)) {
            return LOST + OUTSIDE;
        }
        weighOthers(man);
        long upper = what == 0 ? gains.average(now.weights) : gains.surplus(now.weights, now.allWeights());
        return lowest(upper, lower(gains.free + 1), part);
    }

    public long nobody(int part) {
        if (!isBit(part)) {
            return LOST + OUTSIDE;
        }
        weighAll();
        return lowest(winners.of[0], power(now.allWeights(), winners.free), part);
    }

    public int rest(int t, int number) {
        if (!now.hasNumber(number)) {
            return UNKNOWN;
        }
        if (!isSum(t)) {
            return OUTSIDE;
        }
        calm.find(now, t);
        return calm.weightOf(t, number);
    }

    public long gap(int t, int part) {
        if (!isSum(t) || !isBit(part)) {
            return LOST + OUTSIDE;
        }
        calm.find(now, t);
        return lowest(calm.gaps[t], power(t, now.men) * now.shares(), part);
    }

    // ---- 3 friends, spies, steps, late ones

    public int friends(int set, int man) {
        if (!now.hasMan(man)) {
            return UNKNOWN;
        }
        if (!isSet(set)) {
            return OUTSIDE;
        }
        if ((set >> man & 1) == 0) {
            return UNKNOWN;
        }
        pact.find(now, set);
        return pact.numberOf(man);
    }

    public long league(int set, int part) {
        if (!isSet(set) || !isBit(part)) {
            return LOST + OUTSIDE;
        }
        pact.find(now, set);
        return lowest(pact.bestUpper, lower(pact.winners.free), part);
    }

    public int spy(int man) {
        if (!now.hasMan(man)) {
            return UNKNOWN;
        }
        if (fault() != NONE) {
            return NO;
        }
        weighPad(man);
        return gains.top();
    }

    public long spied(int man, int part) {
        if (!now.hasMan(man)) {
            return LOST + UNKNOWN;
        }
        if (!isBit(part)) {
            return LOST + OUTSIDE;
        }
        if (fault() != NONE) {
            return LOST + NO;
        }
        weighPad(man);
        return lowest(gains.of[gains.top()], lower(gains.free), part);
    }

    public int steps(int k) {
        if (k < 1 || k > MOST_STEPS) {
            return OUTSIDE;
        }
        // Number 0 is joined as one who writes by weights: that is how one of no steps writes.
        int number = 0;
        for (int step = 1; step <= k; step++) {
            gains.clear(now.law, now.numbers);
            for (int other = 1; other < now.men; other++) {
                gains.join(number);
            }
            gains.run(now.weights);
            number = gains.top();
        }
        return number;
    }

    public int late(int man, int what) {
        if (!now.hasMan(man)) {
            return UNKNOWN;
        }
        if (!isBit(what)) {
            return OUTSIDE;
        }
        int number = arrivals.play(now, evening);
        if (what == 0) {
            return evening.slips[man];
        }
        return number == 0 ? NONE : evening.writers(number);
    }

    // ---- 4 prizes, sights, years

    public long prize(int p, int c, int part) {
        if (p < 1 || p > MOST_PRIZE || c < 0 || c >= HUNDRED || !isBit(part)) {
            return LOST + OUTSIDE;
        }
        weighAll();
        long all = power(now.allWeights(), winners.free);
        long won = all - winners.of[0];
        if (won <= 0) {
            return LOST + STATE;
        }
        if (c == 0) {
            return lowest(p * all, won, part);
        }
        return lowest(c * p * all, won * HUNDRED, part);
    }

    public int seen(int how, int man, int number) {
        if (how != SIGHT_NOBODY && (!now.hasMan(man) || !now.hasNumber(number))) {
            return UNKNOWN;
        }
        if (how < SIGHT_WINS || how > SIGHT_NOBODY) {
            return OUTSIDE;
        }
        if (now.sights >= MOST_SIGHTS) {
            return FULL;
        }
        now.addSight(how, man, number);
        return now.sights;
    }

    public int forget() {
        int was = now.sights;
        now.sights = 0;
        return was;
    }

    public int fits(int i) {
        fit.read(now);
        if (i == -1) {
            return fit.rows();
        }
        if (!now.hasMan(i) || fit.rows() == 0) {
            return NONE;
        }
        fit.bindFirst();
        return fit.bound[i];
    }

    public int could(int man) {
        if (!now.hasMan(man)) {
            return UNKNOWN;
        }
        fit.read(now);
        return fit.numbersOf(man);
    }

    public int year(int seed, int e, int man) {
        if (man != -1 && !now.hasMan(man)) {
            return UNKNOWN;
        }
        if (seed < 0 || seed > MOST_SEED || e < 1 || e > MOST_EVENINGS) {
            return OUTSIDE;
        }
        int x = seed;
        int evenings = 0;
        for (int i = 0; i < e; i++) {
            x = evening.draw(now, x);
            int number = winner(now.law, evening.counts, now.numbers);
            if (man == -1 ? number == 0 : number != 0 && evening.slips[man] == number) {
                evenings++;
            }
        }
        return evenings;
    }

    public int image(int n) {
        if (!isBit(n)) {
            return OUTSIDE;
        }
        images[n].copy(now);
        kept[n] = true;
        return 1;
    }

    public int restore(int n) {
        if (!isBit(n)) {
            return OUTSIDE;
        }
        if (!kept[n]) {
            return STATE;
        }
        now.copy(images[n]);
        return 1;
    }

    public int told(int what) {
        switch (what) {
            case 0:
                return signs;
            case 1:
                return now.men;
            case 2:
                return now.numbers;
            case 3:
                return now.law;
            case 4:
                return now.sights;
            default:
                return toldOfOne(what);
        }
    }

    // ---- what the calls share

    private int toldOfOne(int what) {
        if (what > TOLD_WEIGHTS && what <= TOLD_WEIGHTS + now.numbers) {
            return now.weights[what - TOLD_WEIGHTS];
        }
        if (what >= TOLD_FOOLS && what < TOLD_FOOLS + now.men) {
            return now.fools[what - TOLD_FOOLS];
        }
        return OUTSIDE;
    }

    private static boolean isSize(int v) {
        return v >= LEAST_SIZE && v <= MOST;
    }

    private static boolean isBit(int v) {
        return v == 0 || v == 1;
    }

    private static boolean isSum(int t) {
        return t >= 1 && t <= MOST_SUM;
    }

    private boolean isSet(int set) {
        return set >= 1 && set < 1 << now.men;
    }

    private boolean isSlip(int sign) {
        return sign == '?' || (sign >= '0' && sign <= '0' + now.numbers);
    }

    private boolean isUntold() {
        for (int i = 0; i < signs && i < MOST_SIGNS; i++) {
            if (pad[i] == '?') {
                return true;
            }
        }
        return false;
    }

    /** The lower number of a chance that hangs on so many who write by weights. */
    private long lower(int writers) {
        return power(now.allWeights(), writers) * now.shares();
    }

    private void weighOthers(int man) {
        gains.clear(now.law, now.numbers);
        for (int other = 0; other < now.men; other++) {
            if (other != man) {
                gains.join(now.fools[other]);
            }
        }
        gains.run(now.weights);
    }

    private void weighPad(int man) {
        gains.clear(now.law, now.numbers);
        for (int other = 0; other < now.men; other++) {
            // A 0 on the pad writes nothing, but 0 for join is one who writes by weights.
            if (other != man && pad[other] != '0') {
                gains.join(pad[other] == '?' ? 0 : pad[other] - '0');
            }
        }
        gains.run(now.weights);
    }

    private void weighAll() {
        winners.clear(now.law, now.numbers);
        for (int man = 0; man < now.men; man++) {
            winners.join(now.fools[man]);
        }
        winners.run(now.weights);
    }

    private static long power(long base, int exponent) {
        long product = 1;
        for (int i = 0; i < exponent; i++) {
            product *= base;
        }
        return product;
    }

    private static long lowest(long upper, long lower, int part) {
        long divisor = commonDivisor(upper, lower);
        if (divisor == 0) {
            return 0;
        }
        return (part == 0 ? upper : lower) / divisor;
    }

    private static long commonDivisor(long a, long b) {
        long x = a;
        long y = b;
        // Two steps at least halve it, so a long is through far below this bound.
        for (int i = 0; i < 200 && y != 0; i++) {
            long left = x % y;
            x = y;
            y = left;
        }
        return x;
    }

    /** How many must have written a number, so that it may win. */
    private static int writersToWin(int law) {
        return law == LAW_PAIR ? 2 : 1;
    }

    private static int numbersWritten(int times, int[] counts, int numbers) {
        int found = 0;
        for (int number = 1; number <= numbers && number < counts.length; number++) {
            if (counts[number] == times) {
                found++;
            }
        }
        return found;
    }

    /** The number that wins by the law; 0: nobody wins. */
    private static int winner(int law, int[] counts, int numbers) {
        int times = writersToWin(law);
        int left = winning(law, numbersWritten(times, counts, numbers));
        for (int number = 1; number <= numbers && number < counts.length; number++) {
            if (counts[number] == times) {
                left--;
                if (left == 0) {
                    return number;
                }
            }
        }
        return 0;
    }

    private static int winning(int law, int found) {
        if (law < 0 || law > LAW_PAIR || found < 0 || found >= LAW_ROW) {
            return 0;
        }
        return WINNING[law * LAW_ROW + found];
    }

    /** What an image keeps: all but the pad. */
    private static final class Table {
        int men = 4;
        int numbers = 5;
        int law = 0;
        final int[] weights = {0, 1, 1, 1, 1, 1, 0};
        final int[] fools = new int[MOST];
        final int[] sightHow = new int[MOST_SIGHTS];
        final int[] sightMan = new int[MOST_SIGHTS];
        final int[] sightNumber = new int[MOST_SIGHTS];
        int sights = 0;

        void open(int newMen, int newNumbers) {
            men = newMen;
            numbers = newNumbers;
            sights = 0;
            for (int number = 1; number <= MOST; number++) {
                weights[number] = number <= newNumbers ? 1 : 0;
            }
            for (int man = 0; man < MOST; man++) {
                fools[man] = 0;
            }
        }

        void copy(Table from) {
            men = from.men;
            numbers = from.numbers;
            law = from.law;
            sights = from.sights;
            System.arraycopy(from.weights, 0, weights, 0, ROW);
            System.arraycopy(from.fools, 0, fools, 0, MOST);
            System.arraycopy(from.sightHow, 0, sightHow, 0, MOST_SIGHTS);
            System.arraycopy(from.sightMan, 0, sightMan, 0, MOST_SIGHTS);
            System.arraycopy(from.sightNumber, 0, sightNumber, 0, MOST_SIGHTS);
        }

        void addSight(int how, int man, int number) {
            if (sights < MOST_SIGHTS) {
                sightHow[sights] = how;
                sightMan[sights] = man;
                sightNumber[sights] = number;
                sights++;
            }
        }

        boolean hasMan(int man) {
            return man >= 0 && man < men;
        }

        boolean hasNumber(int number) {
            return number >= 1 && number <= numbers;
        }

        int allWeights() {
            int all = 0;
            for (int number = 1; number <= numbers; number++) {
                all += weights[number];
            }
            return all;
        }

        /** Those who wrote the number that wins share the goose. */
        int shares() {
            return writersToWin(law);
        }
    }

    /** One evening: what each man wrote, and how many wrote each number. */
    private static final class Evening {
        final int[] slips = new int[MOST];
        final int[] counts = new int[ROW];

        void clear() {
            for (int number = 0; number < ROW; number++) {
                counts[number] = 0;
            }
            for (int man = 0; man < MOST; man++) {
                slips[man] = 0;
            }
        }

        void write(int man, int number) {
            if (man >= 0 && man < MOST && number >= 0 && number < ROW) {
                slips[man] = number;
                counts[number]++;
            }
        }

        /** An evening of a year: the answer is x as the last man leaves it. */
        int draw(Table table, int seed) {
            int all = table.allWeights();
            int x = seed;
            clear();
            for (int man = 0; man < table.men; man++) {
                x = (75 * x + 74) % 65537;
                int lot = all > 0 ? x % all : 0;
                write(man, table.fools[man] != 0 ? table.fools[man] : numberOfLot(table, lot));
            }
            return x;
        }

        private static int numberOfLot(Table table, int lot) {
            int left = lot;
            for (int number = 1; number < table.numbers; number++) {
                if (left < table.weights[number]) {
                    return number;
                }
                left -= table.weights[number];
            }
            return table.numbers;
        }

        int writers(int number) {
            int bits = 0;
            for (int man = 0; man < MOST; man++) {
                if (slips[man] == number) {
                    bits |= 1 << man;
                }
            }
            return bits;
        }
    }

    /**
     * All ways in which some write fixed numbers and some write by weights. Who wrote what among
     * the latter does not matter, only how many wrote each number: so rows of counts are gone
     * through, each with the ways in which it comes about.
     */
    private abstract static class Tally {
        final int[] counts = new int[ROW];
        final long[] of = new long[ROW];
        int law = 0;
        int numbers = LEAST_SIZE;
        int free = 0;

        final void clear(int newLaw, int newNumbers) {
            law = newLaw;
            numbers = newNumbers;
            free = 0;
            for (int number = 0; number < ROW; number++) {
                counts[number] = 0;
            }
        }

        /** One more writes this number; 0: he writes by weights. */
        final void join(int number) {
            if (number == 0) {
                free++;
            } else if (number >= 1 && number <= numbers) {
                counts[number]++;
            }
        }

        final void run(int[] weights) {
            for (int number = 0; number < ROW; number++) {
                of[number] = 0;
            }
            place(this, weights, 1, free, 1);
        }

        /** These counts come about in so many ways. */
        abstract void meet(long ways);
    }

    private static void place(Tally tally, int[] weights, int number, int left, long ways) {
        if (number < 1 || number > MOST || number >= weights.length || left < 0 || left > MOST) {
            return;
        }
        int before = tally.counts[number];
        if (number >= tally.numbers) {
            long last = ways * power(weights[number], left);
            if (last > 0) {
                tally.counts[number] = before + left;
                tally.meet(last);
                tally.counts[number] = before;
            }
            return;
        }
        long here = ways;
        for (int writers = 0; writers <= left && here > 0; writers++) {
            tally.counts[number] = before + writers;
            place(tally, weights, number + 1, left - writers, here * CHOOSE[left * ROW + writers]);
            here *= weights[number];
        }
        tally.counts[number] = before;
    }

    /** In how many ways each number wins; at 0, nobody. */
    private static final class Winners extends Tally {
        void meet(long ways) {
            int number = winner(law, counts, numbers);
            if (number >= 0 && number < ROW) {
                of[number] += ways;
            }
        }
    }

    /** In how many ways each number wins for one man more who writes it. */
    private static final class Gains extends Tally {
        void meet(long ways) {
            int times = writersToWin(law);
            // His number is one more that may win, wherever he is the one that lacks.
            int place = winning(law, numbersWritten(times, counts, numbers) + 1);
            int here = 1;
            for (int number = 1; number <= numbers && number < ROW; number++) {
                if (counts[number] == times) {
                    here++;
                } else if (counts[number] == times - 1 && here == place) {
                    of[number] += ways;
                }
            }
        }

        int top() {
            int found = 1;
            for (int number = 2; number <= numbers && number < ROW; number++) {
                if (of[number] > of[found]) {
                    found = number;
                }
            }
            return found;
        }

        /** The upper number of what he has by these weights himself. */
        long average(int[] weights) {
            long sum = 0;
            for (int number = 1; number <= numbers && number < ROW && number < weights.length; number++) {
                sum += weights[number] * of[number];
            }
            return sum;
        }

        /** The upper number of how much better the best number is than these weights. */
        long surplus(int[] weights, int all) {
            return all * of[top()] - average(weights);
        }
    }

    /**
     * Weights of a sum by which nobody would do much better. They hang on the law, the men and the
     * numbers alone, and are dear to find: those last found for each sum are held with the key of what
     * they were found for.
     */
    private static final class Calm {
        final Gains gains = new Gains();
        final int[] keys = new int[MOST_SUM + 1];
        final int[] rows = new int[(MOST_SUM + 1) * ROW];
        final long[] gaps = new long[MOST_SUM + 1];
        final int[] row = new int[ROW];
        int sum = 0;

        void find(Table table, int newSum) {
            int key = table.law * 100 + table.men * 10 + table.numbers;
            if (!isSum(newSum) || keys[newSum] == key) {
                return;
            }
            sum = newSum;
            keys[sum] = key;
            gaps[sum] = -1;
            gains.clear(table.law, table.numbers);
            for (int other = 1; other < table.men; other++) {
                gains.join(0);
            }
            spread(this, 1, sum);
        }

        int weightOf(int ofSum, int number) {
            if (!isSum(ofSum) || number < 1 || number > MOST) {
                return 0;
            }
            return rows[ofSum * ROW + number];
        }

        private void judge() {
            long surplus = gains.surplus(row, sum);
            if (gaps[sum] < 0 || surplus < gaps[sum]) {
                gaps[sum] = surplus;
                System.arraycopy(row, 0, rows, sum * ROW, ROW);
            }
        }
    }

    private static void spread(Calm calm, int number, int left) {
        // No gap is below 0: what comes later can not be better.
        if (number < 1 || number > MOST || calm.gaps[calm.sum] == 0) {
            return;
        }
        if (number >= calm.gains.numbers) {
            calm.row[number] = left;
            calm.gains.run(calm.row);
            calm.judge();
            return;
        }
        for (int share = 0; share <= left; share++) {
            calm.row[number] = share;
            spread(calm, number + 1, left - share);
        }
    }

    /** What friends agree on. Who of them writes which number does not matter: rising rows are enough. */
    private static final class Pact {
        final Winners winners = new Winners();
        final int[] row = new int[MOST];
        final int[] bestRow = new int[MOST];
        long bestUpper = -1;
        int set = 0;
        int size = 0;

        void find(Table table, int newSet) {
            set = newSet;
            size = Integer.bitCount(newSet);
            bestUpper = -1;
            agree(this, table, 0, 1);
        }

        int numberOf(int man) {
            int place = Integer.bitCount(set & ((1 << man) - 1));
            return place < MOST ? bestRow[place] : 0;
        }

        private void gather(Table table) {
            winners.clear(table.law, table.numbers);
            int place = 0;
            for (int man = 0; man < table.men; man++) {
                if ((set >> man & 1) != 0 && place < MOST) {
                    winners.join(row[place]);
                    place++;
                } else {
                    winners.join(table.fools[man]);
                }
            }
        }

        private void judge() {
            long upper = 0;
            // Each friend has his share of the ways in which his number wins.
            for (int place = 0; place < size && place < MOST; place++) {
                int number = row[place];
                if (number >= 1 && number < ROW) {
                    upper += winners.of[number];
                }
            }
            if (upper > bestUpper) {
                bestUpper = upper;
                System.arraycopy(row, 0, bestRow, 0, MOST);
            }
        }
    }

    private static void agree(Pact pact, Table table, int place, int least) {
        if (place >= pact.size || place >= MOST) {
            pact.gather(table);
            pact.winners.run(table.weights);
            pact.judge();
            return;
        }
        for (int number = least; number <= table.numbers; number++) {
            pact.row[place] = number;
            agree(pact, table, place + 1, number);
        }
    }

    /**
     * Men who write one after another. What the later ones do hangs only on how many wrote each
     * number, so the number that wins in the end is held for each row of counts.
     */
    private static final class Arrivals {
        final int[] counts = new int[ROW];
        /** The number that wins in the end, and one; 0: not found yet. */
        final byte[] ends = new byte[COUNT_ROWS];

        int play(Table table, Evening evening) {
            for (int i = 0; i < COUNT_ROWS; i++) {
                ends[i] = 0;
            }
            for (int number = 0; number < ROW; number++) {
                counts[number] = 0;
            }
            evening.clear();
            for (int man = 0; man < table.men; man++) {
                int number = choice(this, table, man);
                if (number >= 1 && number < ROW) {
                    counts[number]++;
                    evening.write(man, number);
                }
            }
            return winner(table.law, counts, table.numbers);
        }

        private int rank(int numbers) {
            int sum = 0;
            int place = 0;
            for (int number = 1; number <= numbers && number < ROW; number++) {
                sum += counts[number];
                if (sum >= 0 && sum < ROW) {
                    place += BELOW[number * ROW + sum];
                }
            }
            return place;
        }
    }

    /** A man wins or does not, so the first number that wins for him is his; without one, the least. */
    private static int choice(Arrivals arrivals, Table table, int man) {
        if (man < 0 || man >= MOST) {
            return 1;
        }
        if (table.fools[man] != 0) {
            return table.fools[man];
        }
        for (int number = 1; number <= table.numbers; number++) {
            if (endWith(arrivals, table, man, number) == number) {
                return number;
            }
        }
        return 1;
    }

    private static int endWith(Arrivals arrivals, Table table, int man, int number) {
        if (number < 1 || number >= ROW) {
            return 0;
        }
        arrivals.counts[number]++;
        int end = end(arrivals, table, man + 1);
        arrivals.counts[number]--;
        return end;
    }

    private static int end(Arrivals arrivals, Table table, int man) {
        if (man >= table.men) {
            return winner(table.law, arrivals.counts, table.numbers);
        }
        int rank = arrivals.rank(table.numbers);
        if (rank < 0 || rank >= COUNT_ROWS) {
            return 0;
        }
        if (arrivals.ends[rank] == 0) {
            int number = endWith(arrivals, table, man, choice(arrivals, table, man));
            arrivals.ends[rank] = (byte) (number + 1);
        }
        return arrivals.ends[rank] - 1;
    }

    /** Rows of slips that fit the sights: sights bind men to numbers, and say what must win. */
    private static final class Fit {
        private static final int ANY = -1;

        final Winners winners = new Winners();
        final int[] bound = new int[MOST];
        int law = 0;
        int men = 0;
        int numbers = 0;
        int mustWin = ANY;
        boolean clash = false;

        void read(Table table) {
            law = table.law;
            men = table.men;
            numbers = table.numbers;
            mustWin = ANY;
            clash = false;
            for (int man = 0; man < MOST; man++) {
                bound[man] = 0;
            }
            for (int i = 0; i < table.sights && i < MOST_SIGHTS; i++) {
                int how = table.sightHow[i];
                if (how != SIGHT_NOBODY) {
                    bind(table.sightMan[i], table.sightNumber[i]);
                }
                if (how != SIGHT_WROTE) {
                    demand(how == SIGHT_NOBODY ? 0 : table.sightNumber[i]);
                }
            }
        }

        private void bind(int man, int number) {
            if (man < 0 || man >= MOST) {
                return;
            }
            if (bound[man] != 0 && bound[man] != number) {
                clash = true;
            }
            bound[man] = number;
        }

        private void demand(int number) {
            if (mustWin != ANY && mustWin != number) {
                clash = true;
            }
            mustWin = number;
        }

        int rows() {
            if (clash) {
                return 0;
            }
            winners.clear(law, numbers);
            for (int man = 0; man < men && man < MOST; man++) {
                winners.join(bound[man]);
            }
            if (mustWin < 0 || mustWin >= ROW) {
                return (int) power(numbers, winners.free);
            }
            winners.run(ONES);
            return (int) winners.of[mustWin];
        }

        /** Binds one man after another to the least number that leaves a row. */
        void bindFirst() {
            for (int man = 0; man < men && man < MOST; man++) {
                boolean found = bound[man] != 0;
                for (int number = 1; number <= numbers && !found; number++) {
                    bound[man] = number;
                    found = rows() > 0;
                }
            }
        }

        int numbersOf(int man) {
            if (man < 0 || man >= MOST) {
                return 0;
            }
            int was = bound[man];
            int bits = 0;
            for (int number = 1; number <= numbers; number++) {
                bound[man] = number;
                if ((was == 0 || was == number) && rows() > 0) {
                    bits |= 1 << number;
                }
            }
            bound[man] = was;
            return bits;
        }
    }
}
