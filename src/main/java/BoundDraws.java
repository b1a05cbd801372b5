/**
 * What rows of trials bear, with a told trust: odds of hits as wide wholes, bounds of what lies
 * behind them, pairs compared by turned signs, counted all; hits and misses against one another;
 * rows and groups drawn anew by a seed; several compares put right; and a test that may be looked
 * at behind each try.
 *
 * <p>All that a call needs is made with the object and used again, so that no call makes anything
 * but the exception that the document asks for.
 */
public final class BoundDraws {
    public static final int OUTSIDE = -1, FULL = -2, NONE = -3;

    private static final int MOST_TRIES = 30;
    private static final int MOST_DOWN = 1000;
    private static final int LAST_LIMB = 10;
    private static final int LAST_GROUP = 7;
    private static final int MOST_OF_ROW = 100;
    private static final int MOST_MARK = 101;
    private static final int MOST_TIMES = 60;
    private static final int MOST_COMPARE_DOWN = 100000;
    private static final int MOST_TEST_DOWN = 100;

    private final Hits hits;
    private final Rows rows;
    private final Units units;
    private final Turns turns;
    private final Means means;
    private final Compares compares;
    private final Trial trial;
    private final Ratio answer;

    public BoundDraws() {
        hits = new Hits();
        rows = new Rows();
        units = new Units();
        turns = new Turns();
        means = new Means();
        compares = new Compares();
        trial = new Trial();
        answer = new Ratio();
    }

    // ---- hits

    public long above(int n, int k, int up, int down, int side, int i) {
        if (!areHits(n, k, up, down, side) || !Numbers.within(i, 0, LAST_LIMB)) {
            return OUTSIDE;
        }
        return hits.limbOfAbove(n, k, up, down, side, i);
    }

    public int odds(int n, int k, int up, int down, int side, int a, int b) {
        if (!areHits(n, k, up, down, side) || !Numbers.within(b, 1, MOST_DOWN) || !Numbers.within(a, 0, b)) {
            return OUTSIDE;
        }
        return 1 + hits.oddsAgainst(n, k, up, down, side, a, b);
    }

    public int bound(int n, int k, int side, int a, int b) throws IllegalArgumentException {
        if (!Numbers.within(n, 1, MOST_TRIES) || !Numbers.within(k, 0, n) || !isSide(side)) {
            return OUTSIDE;
        }
        if (!isTrust(a, b)) {
            throw new IllegalArgumentException("a trust a / b has b of 2 to 1000 and a of 1 to b less 1");
        }
        return side == 0 ? hits.upper(n, k, a, b) : hits.lower(n, k, a, b);
    }

    // ---- rows

    public int row(int group, int x, int y) {
        if (!Numbers.within(group, 0, LAST_GROUP) || !Numbers.within(x, 0, MOST_OF_ROW)
                || !Numbers.within(y, 0, MOST_OF_ROW)) {
            return OUTSIDE;
        }
        if (rows.isFull()) {
            return FULL;
        }
        rows.add(group, x, y);
        return rows.size();
    }

    public int drop() {
        if (rows.size() == 0) {
            return NONE;
        }
        rows.removeLast();
        return rows.size();
    }

    public long turned(boolean groups, int what) {
        if (!Numbers.within(what, 0, 2)) {
            return OUTSIDE;
        }
        units.take(rows, groups);
        turns.take(units);
        if (what == 0) {
            return turns.signs();
        }
        return what == 1 ? turns.waysAtLeast() : turns.waysAsFar();
    }

    public int wins(int t, int what) {
        if (!Numbers.within(t, 0, MOST_MARK) || !Numbers.within(what, 0, 1)) {
            return OUTSIDE;
        }
        return what == 0 ? rows.winsBy(t) : rows.lossesBy(t);
    }

    public long even(int t, int side) {
        if (!Numbers.within(t, 0, MOST_MARK) || !isSide(side)) {
            return OUTSIDE;
        }
        takeOddsOf(rows.winsBy(t), rows.lossesBy(t));
        return answer.told(side);
    }

    // ---- drawn anew

    public int draw(long seed, int times, boolean groups) {
        if (!Numbers.within(times, 1, MOST_TIMES)) {
            return OUTSIDE;
        }
        if (rows.size() == 0) {
            return NONE;
        }
        units.take(rows, groups);
        means.drawAnew(seed, times, units);
        return units.size();
    }

    public long drawn(int i, int side) throws IndexOutOfBoundsException {
        if (!isSide(side)) {
            return OUTSIDE;
        }
        if (i < 0 || i >= means.size()) {
            throw new IndexOutOfBoundsException("there is no such mean");
        }
        return means.told(i, side);
    }

    public long percentile(int up, int down, int side) {
        if (!Numbers.within(down, 1, MOST_DOWN) || !Numbers.within(up, 0, down) || !isSide(side)) {
            return OUTSIDE;
        }
        if (means.size() == 0) {
            return NONE;
        }
        int upwards = (means.size() * up + down - 1) / down;
        return means.told(Math.max(upwards - 1, 0), side);
    }

    public int share() throws ArithmeticException {
        int all = means.size();
        if (all == 0) {
            throw new ArithmeticException("nothing was drawn");
        }
        return 1000 * means.aboveZero() / all;
    }

    // ---- compares

    public int compare(int up, int down) {
        if (!Numbers.within(down, 1, MOST_COMPARE_DOWN) || !Numbers.within(up, 0, down)) {
            return OUTSIDE;
        }
        if (compares.isFull()) {
            return FULL;
        }
        compares.add(up, down);
        return compares.size() - 1;
    }

    public long raised(int way, int number, int side) {
        if (!Numbers.within(way, 0, 2) || !isSide(side)) {
            return OUTSIDE;
        }
        if (number < 0 || number >= compares.size()) {
            return NONE;
        }
        compares.raise(way, number, answer);
        answer.capAtOne();
        return answer.told(side);
    }

    public int forget() {
        int were = compares.size();
        compares.empty();
        return were;
    }

    // ---- a test

    public int begin(int up, int down, int a, int b) throws IllegalArgumentException {
        if (!Numbers.within(down, 2, MOST_TEST_DOWN) || !Numbers.within(up, 1, down - 1)) {
            return OUTSIDE;
        }
        if (!isTrust(a, b)) {
            throw new IllegalArgumentException("a trust a / b has b of 2 to 1000 and a of 1 to b less 1");
        }
        trial.start(up, down, a, b);
        return 1;
    }

    public int hit(boolean is) {
        if (!trial.isOn()) {
            return NONE;
        }
        if (trial.isFull()) {
            return FULL;
        }
        trial.take(is);
        return trial.rejectedBehind() > 0 ? 1 : 0;
    }

    public int test(int what) {
        if (!trial.isOn()) {
            return NONE;
        }
        switch (what) {
            case 0:
                return trial.tries();
            case 1:
                return trial.hits();
            case 2:
                return trial.rejectedBehind();
            case 3:
                return trial.isRich() ? 1 : 0;
            default:
                return OUTSIDE;
        }
    }

    public int count(int what) {
        switch (what) {
            case 0:
                return rows.size();
            case 1:
                return rows.groupsWithRows();
            case 2:
                return means.size();
            case 3:
                return compares.size();
            default:
                return OUTSIDE;
        }
    }

    public int clear() {
        int were = rows.size();
        rows.empty();
        means.empty();
        compares.empty();
        trial.stop();
        return were;
    }

    private static boolean areHits(int n, int k, int up, int down, int side) {
        return Numbers.within(n, 0, MOST_TRIES) && Numbers.within(k, 0, n)
                && Numbers.within(down, 1, MOST_DOWN) && Numbers.within(up, 0, down) && isSide(side);
    }

    private static boolean isSide(int side) {
        return side == 0 || side == 1;
    }

    private static boolean isTrust(int a, int b) {
        return Numbers.within(b, 2, MOST_DOWN) && Numbers.within(a, 1, b - 1);
    }

    private void takeOddsOf(int wins, int losses) {
        int tries = wins + losses;
        int lesser = Math.min(wins, losses);
        long ways = 0;
        for (int i = 0; i <= lesser; i++) {
            ways += Numbers.setsOutOf(tries, i);
        }
        answer.become(2 * ways, 1L << tries);
        answer.capAtOne();
    }

    private static final class Numbers {
        /** Far above the some 90 steps that Euclid's way needs for the greatest of longs. */
        private static final int MOST_STEPS = 1000;

        private Numbers() {
        }

        static boolean within(int value, int least, int most) {
            return value >= least && value <= most;
        }

        /** For n up to 60 and k up to n: no product on the way leaves a long. */
        static long setsOutOf(int n, int k) {
            long sets = 1;
            for (int i = 1; i <= k; i++) {
                sets = sets * (n - i + 1) / i;
            }
            return sets;
        }

        static long commonDivisor(long one, long other) {
            long left = one;
            long right = other;
            for (int step = 0; right != 0 && step < MOST_STEPS; step++) {
                long rest = left % right;
                left = right;
                right = rest;
            }
            return left;
        }
    }

    /** A fraction in lowest terms, its lower number above 0. */
    private static final class Ratio {
        private long upper;
        private long lower;

        Ratio() {
            upper = 0;
            lower = 1;
        }

        void become(long newUpper, long newLower) {
            long divisor = Numbers.commonDivisor(Math.abs(newUpper), newLower);
            if (divisor <= 0) {
                return;
            }
            upper = newUpper / divisor;
            lower = newLower / divisor;
        }

        boolean isAbove(long otherUpper, long otherLower) {
            return upper * otherLower > otherUpper * lower;
        }

        boolean isBelow(long otherUpper, long otherLower) {
            return upper * otherLower < otherUpper * lower;
        }

        void capAtOne() {
            if (upper > lower) {
                become(1, 1);
            }
        }

        long told(int side) {
            return side == 0 ? upper : lower;
        }
    }

    /** A whole number from 0 up, of LIMBS of 32 bits: wide enough for 100 to the 60-th by 61000. */
    private static final class Wide {
        private static final int LIMBS = 14;
        private static final int BITS = 32;
        private static final long MASK = 0xFFFFFFFFL;

        private final long[] limbs;
        /** Limbs from here on are 0, so that small numbers cost little. */
        private int used;

        Wide() {
            limbs = new long[LIMBS];
            used = 0;
        }

        void become(long value) {
            for (int i = 0; i < LIMBS; i++) {
                limbs[i] = 0;
            }
            limbs[0] = value & MASK;
            limbs[1] = value >>> BITS;
            used = 2;
        }

        /** By a factor of 31 bits at most: the carry must not leave a long. */
        void multiply(long factor) {
            long carry = 0;
            for (int i = 0; i < used; i++) {
                long product = limbs[i] * factor + carry;
                limbs[i] = product & MASK;
                carry = product >>> BITS;
            }
            if (carry != 0 && used < LIMBS) {
                limbs[used] = carry;
                used++;
            }
        }

        void multiplyOften(long factor, int times) {
            for (int i = 0; i < times; i++) {
                multiply(factor);
            }
        }

        /** One limb above both is taken in, since the sum may need it. */
        void addTimes(Wide other, long factor) {
            int reach = Math.min(Math.max(used, other.used) + 1, LIMBS);
            long carry = 0;
            for (int i = 0; i < reach; i++) {
                long sum = limbs[i] + other.limbs[i] * factor + carry;
                limbs[i] = sum & MASK;
                carry = sum >>> BITS;
            }
            used = limbs[reach - 1] == 0 ? reach - 1 : reach;
        }

        /** -1, 0 or 1: below the other, like it, above it. */
        int against(Wide other) {
            for (int i = LIMBS - 1; i >= 0; i--) {
                if (limbs[i] != other.limbs[i]) {
                    return limbs[i] < other.limbs[i] ? -1 : 1;
                }
            }
            return 0;
        }

        long limb(int i) {
            return i >= 0 && i < LIMBS ? limbs[i] : 0;
        }
    }

    private static final class Hits {
        private static final int PARTS = 1000;

        private final Wide sum;
        private final Wide power;
        private final Wide measure;

        Hits() {
            sum = new Wide();
            power = new Wide();
            measure = new Wide();
        }

        long limbOfAbove(int n, int k, int up, int down, int side, int i) {
            sumUp(n, k, up, down, side);
            return sum.limb(i);
        }

        int oddsAgainst(int n, int k, int up, int down, int side, int a, int b) {
            measure.become(a);
            measure.multiplyOften(down, n);
            sumUp(n, k, up, down, side);
            sum.multiply(b);
            return sum.against(measure);
        }

        /** The odds of at most k hits never grow with q, so halving finds the least q. */
        int upper(int n, int k, int a, int b) {
            measure.become(a);
            measure.multiplyOften(PARTS, n);
            int least = 0;
            int most = PARTS;
            for (int step = 0; least < most && step < PARTS; step++) {
                int q = (least + most) / 2;
                sumUp(n, k, q, PARTS, 1);
                sum.multiply(b);
                if (sum.against(measure) <= 0) {
                    most = q;
                } else {
                    least = q + 1;
                }
            }
            return least;
        }

        /** k hits or more by q are at most n - k misses by 1000 - q: THE UPPER, seen from the misses. */
        int lower(int n, int k, int a, int b) {
            return PARTS - upper(n, n - k, a, b);
        }

        /** At most k hits are n - k misses or more, so one sum serves both sides. */
        private void sumUp(int n, int k, int up, int down, int side) {
            if (side == 0) {
                sumOfAtLeast(n, k, up, down - up);
            } else {
                sumOfAtLeast(n, n - k, down - up, up);
            }
        }

        /** By Horner's way, from all tries hits downwards, so that no term is raised by itself. */
        private void sumOfAtLeast(int n, int k, int ofHit, int ofMiss) {
            sum.become(0);
            power.become(1);
            long sets = 1;
            for (int misses = 0; misses <= n - k; misses++) {
                sum.multiply(ofHit);
                sum.addTimes(power, sets);
                power.multiply(ofMiss);
                sets = sets * (n - misses) / (misses + 1);
            }
            sum.multiplyOften(ofHit, k);
        }
    }

    private static final class Rows {
        static final int MOST = 30;
        static final int GROUPS = 8;

        private final int[] groups;
        private final int[] xs;
        private final int[] ys;
        private int used;

        Rows() {
            groups = new int[MOST];
            xs = new int[MOST];
            ys = new int[MOST];
            used = 0;
        }

        int size() {
            return used;
        }

        boolean isFull() {
            return used >= MOST;
        }

        void add(int group, int x, int y) {
            if (isFull()) {
                return;
            }
            groups[used] = group;
            xs[used] = x;
            ys[used] = y;
            used++;
        }

        void removeLast() {
            if (used > 0) {
                used--;
            }
        }

        void empty() {
            used = 0;
        }

        int difference(int i) {
            return i >= 0 && i < used ? xs[i] - ys[i] : 0;
        }

        int sizeOfGroup(int group) {
            int size = 0;
            for (int i = 0; i < used; i++) {
                if (groups[i] == group) {
                    size++;
                }
            }
            return size;
        }

        int differenceOfGroup(int group) {
            int sum = 0;
            for (int i = 0; i < used; i++) {
                if (groups[i] == group) {
                    sum += xs[i] - ys[i];
                }
            }
            return sum;
        }

        int groupsWithRows() {
            int filled = 0;
            for (int group = 0; group < GROUPS; group++) {
                if (sizeOfGroup(group) > 0) {
                    filled++;
                }
            }
            return filled;
        }

        int winsBy(int mark) {
            return reachedAlone(xs, ys, mark);
        }

        int lossesBy(int mark) {
            return reachedAlone(ys, xs, mark);
        }

        private int reachedAlone(int[] these, int[] those, int mark) {
            int many = 0;
            for (int i = 0; i < used; i++) {
                if (these[i] >= mark && those[i] < mark) {
                    many++;
                }
            }
            return many;
        }
    }

    /** What is turned or drawn as one: a row, or a group with all its rows. */
    private static final class Units {
        private final int[] differences;
        private final int[] sizes;
        private int used;

        Units() {
            differences = new int[Rows.MOST];
            sizes = new int[Rows.MOST];
            used = 0;
        }

        void take(Rows rows, boolean byGroups) {
            used = 0;
            if (byGroups) {
                takeGroups(rows);
            } else {
                takeRows(rows);
            }
        }

        private void takeRows(Rows rows) {
            for (int i = 0; i < rows.size(); i++) {
                add(rows.difference(i), 1);
            }
        }

        private void takeGroups(Rows rows) {
            for (int group = 0; group < Rows.GROUPS; group++) {
                int size = rows.sizeOfGroup(group);
                if (size > 0) {
                    add(rows.differenceOfGroup(group), size);
                }
            }
        }

        private void add(int difference, int size) {
            if (used >= Rows.MOST) {
                return;
            }
            differences[used] = difference;
            sizes[used] = size;
            used++;
        }

        int size() {
            return used;
        }

        int difference(int i) {
            return i >= 0 && i < used ? differences[i] : 0;
        }

        int rowsOf(int i) {
            return i >= 0 && i < used ? sizes[i] : 0;
        }
    }

    /**
     * All ways of signs, counted by how much bears the minus sign. With that much below, the sum is
     * the whole less twice it: S itself has just the falls below. Each way has a mirror, so that the
     * lesser of falls and rises, 1500 at most, is as far as is ever counted.
     */
    private static final class Turns {
        private static final int MOST_COUNTED = 1500;

        private final long[] waysByMinus;
        private int signs;
        private int rises;
        private int falls;

        Turns() {
            waysByMinus = new long[MOST_COUNTED + 1];
            signs = 0;
            rises = 0;
            falls = 0;
        }

        void take(Units units) {
            measure(units);
            int reach = reach();
            for (int minus = 0; minus <= reach; minus++) {
                waysByMinus[minus] = 0;
            }
            waysByMinus[0] = 1;
            int most = 0;
            for (int i = 0; i < units.size(); i++) {
                int size = Math.abs(units.difference(i));
                if (size > 0) {
                    most = Math.min(most + size, reach);
                    takeSign(size, most);
                }
            }
        }

        private void measure(Units units) {
            signs = 0;
            rises = 0;
            falls = 0;
            for (int i = 0; i < units.size(); i++) {
                int difference = units.difference(i);
                if (difference != 0) {
                    signs++;
                }
                rises += Math.max(difference, 0);
                falls += Math.max(-difference, 0);
            }
        }

        private int reach() {
            return Math.min(Math.min(rises, falls), MOST_COUNTED);
        }

        /** Downwards, so that no unit is taken twice. */
        private void takeSign(int size, int most) {
            for (int minus = most; minus >= size; minus--) {
                waysByMinus[minus] += waysByMinus[minus - size];
            }
        }

        int signs() {
            return signs;
        }

        long waysAtLeast() {
            return rises >= falls ? waysUpTo(falls) : allWays() - waysUpTo(rises - 1);
        }

        long waysAsFar() {
            return rises == falls ? allWays() : 2 * waysUpTo(reach());
        }

        private long allWays() {
            return 1L << signs;
        }

        private long waysUpTo(int most) {
            int last = Math.min(most, MOST_COUNTED);
            long ways = 0;
            for (int minus = 0; minus <= last; minus++) {
                ways += waysByMinus[minus];
            }
            return ways;
        }
    }

    private static final class Means {
        private static final int MOST = 60;
        private static final long FACTOR = 6364136223846793005L;
        private static final long STEP = 1442695040888963407L;
        private static final int DROPPED_BITS = 33;

        private final long[] uppers;
        private final long[] lowers;
        private final Ratio mean;
        private int used;

        Means() {
            uppers = new long[MOST];
            lowers = new long[MOST];
            mean = new Ratio();
            used = 0;
        }

        int size() {
            return used;
        }

        void empty() {
            used = 0;
        }

        void drawAnew(long seed, int times, Units units) {
            int all = units.size();
            if (all <= 0) {
                return;
            }
            used = 0;
            long x = seed;
            for (int time = 0; time < times; time++) {
                long sum = 0;
                long rows = 0;
                for (int i = 0; i < all; i++) {
                    x = x * FACTOR + STEP;
                    int unit = (int) ((x >>> DROPPED_BITS) % all);
                    sum += units.difference(unit);
                    rows += units.rowsOf(unit);
                }
                mean.become(sum, rows);
                insertMean();
            }
        }

        private void insertMean() {
            if (used >= MOST) {
                return;
            }
            int place = used;
            for (; place > 0 && mean.isBelow(uppers[place - 1], lowers[place - 1]); place--) {
                uppers[place] = uppers[place - 1];
                lowers[place] = lowers[place - 1];
            }
            uppers[place] = mean.told(0);
            lowers[place] = mean.told(1);
            used++;
        }

        long told(int i, int side) {
            if (i < 0 || i >= used) {
                return 0;
            }
            return side == 0 ? uppers[i] : lowers[i];
        }

        int aboveZero() {
            int many = 0;
            for (int i = 0; i < used; i++) {
                if (uppers[i] > 0) {
                    many++;
                }
            }
            return many;
        }
    }

    private static final class Compares {
        private static final int MOST = 10;

        private final int[] ups;
        private final int[] downs;
        private int used;

        Compares() {
            ups = new int[MOST];
            downs = new int[MOST];
            used = 0;
        }

        int size() {
            return used;
        }

        boolean isFull() {
            return used >= MOST;
        }

        void add(int up, int down) {
            if (isFull()) {
                return;
            }
            ups[used] = up;
            downs[used] = down;
            used++;
        }

        void empty() {
            used = 0;
        }

        /** Into a ratio that may be above 1. */
        void raise(int way, int number, Ratio into) {
            if (number < 0 || number >= used) {
                return;
            }
            if (way == 0) {
                into.become((long) used * ups[number], downs[number]);
            } else if (way == 1) {
                raiseByGreatest(placeOf(number), into);
            } else {
                raiseByLeast(placeOf(number), into);
            }
        }

        private void raiseByGreatest(int place, Ratio into) {
            into.become(0, 1);
            for (int i = 0; i < used; i++) {
                int other = placeOf(i);
                long upper = (long) (used + 1 - other) * ups[i];
                if (other <= place && into.isBelow(upper, downs[i])) {
                    into.become(upper, downs[i]);
                }
            }
        }

        /** From m on, since no p is above 1: none of what it is the least of is above that. */
        private void raiseByLeast(int place, Ratio into) {
            into.become(used, 1);
            for (int i = 0; i < used; i++) {
                int other = placeOf(i);
                long upper = (long) used * ups[i];
                long lower = (long) other * downs[i];
                if (other >= place && into.isAbove(upper, lower)) {
                    into.become(upper, lower);
                }
            }
        }

        private int placeOf(int number) {
            int place = 1;
            for (int i = 0; i < used; i++) {
                if (standsAhead(i, number)) {
                    place++;
                }
            }
            return place;
        }

        private boolean standsAhead(int one, int other) {
            if (one < 0 || one >= used || other < 0 || other >= used) {
                return false;
            }
            long left = (long) ups[one] * downs[other];
            long right = (long) ups[other] * downs[one];
            return left < right || left == right && one < other;
        }
    }

    /** A TEST, if it is on. */
    private static final class Trial {
        private static final int MOST = 60;

        private final Wide ofAll;
        private final Wide ofThese;
        private boolean on;
        private int up;
        private int down;
        private int a;
        private int b;
        private int tries;
        private int hits;
        private int rejectedBehind;

        Trial() {
            ofAll = new Wide();
            ofThese = new Wide();
        }

        void start(int newUp, int newDown, int newA, int newB) {
            on = true;
            up = newUp;
            down = newDown;
            a = newA;
            b = newB;
            tries = 0;
            hits = 0;
            rejectedBehind = 0;
        }

        void stop() {
            on = false;
        }

        boolean isOn() {
            return on;
        }

        boolean isFull() {
            return tries >= MOST;
        }

        void take(boolean isHit) {
            if (isFull()) {
                return;
            }
            tries++;
            if (isHit) {
                hits++;
            }
            if (rejectedBehind == 0 && isRich()) {
                rejectedBehind = tries;
            }
        }

        int tries() {
            return tries;
        }

        int hits() {
            return hits;
        }

        int rejectedBehind() {
            return rejectedBehind;
        }

        /** THE WEALTH against b / a, both sides multiplied out, so that nothing is divided. */
        boolean isRich() {
            ofAll.become(a);
            ofAll.multiplyOften(down, tries);
            ofThese.become(Numbers.setsOutOf(tries, hits));
            ofThese.multiply(tries + 1);
            ofThese.multiply(b);
            ofThese.multiplyOften(up, hits);
            ofThese.multiplyOften(down - up, tries - hits);
            return ofAll.against(ofThese) >= 0;
        }
    }
}
