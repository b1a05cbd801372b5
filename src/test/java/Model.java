import java.math.BigInteger;
import java.util.ArrayList;
import java.util.HashMap;
import java.util.List;
import java.util.Map;
import java.util.TreeSet;

/** The document once more, in its plainest words and with the library's big numbers. */
final class Model {
    private static final int OUTSIDE = -1;
    private static final int FULL = -2;
    private static final int NONE = -3;

    private record Row(int group, int x, int y) {
    }

    private record Unit(int difference, int rows) {
    }

    /** In lowest terms, with a lower number above 0. */
    private record Fraction(BigInteger upper, BigInteger lower) implements Comparable<Fraction> {
        static Fraction of(long upper, long lower) {
            return of(BigInteger.valueOf(upper), BigInteger.valueOf(lower));
        }

        static Fraction of(BigInteger upper, BigInteger lower) {
            BigInteger divisor = upper.gcd(lower);
            return new Fraction(upper.divide(divisor), lower.divide(divisor));
        }

        Fraction times(long upperFactor, long lowerFactor) {
            return of(upper.multiply(BigInteger.valueOf(upperFactor)), lower.multiply(BigInteger.valueOf(lowerFactor)));
        }

        Fraction atMostOne() {
            return upper.compareTo(lower) > 0 ? of(1, 1) : this;
        }

        long told(int side) {
            return (side == 0 ? upper : lower).longValueExact();
        }

        @Override
        public int compareTo(Fraction other) {
            return upper.multiply(other.lower).compareTo(other.upper.multiply(lower));
        }
    }

    private final List<Row> rows = new ArrayList<>();
    private final List<Fraction> means = new ArrayList<>();
    private final List<Fraction> compares = new ArrayList<>();
    private int[] test = null;
    private final List<Boolean> tries = new ArrayList<>();
    private int rejected = 0;

    static BigInteger sets(int n, int k) {
        BigInteger sets = BigInteger.ONE;
        for (int i = 0; i < k; i++) {
            sets = sets.multiply(BigInteger.valueOf(n - i)).divide(BigInteger.valueOf(i + 1));
        }
        return sets;
    }

    static BigInteger term(int n, int i, int up, int down) {
        return sets(n, i).multiply(BigInteger.valueOf(up).pow(i)).multiply(BigInteger.valueOf(down - up).pow(n - i));
    }

    static BigInteger aboveOf(int n, int k, int up, int down, int side) {
        BigInteger sum = BigInteger.ZERO;
        for (int i = 0; i <= n; i++) {
            if (side == 0 ? i >= k : i <= k) {
                sum = sum.add(term(n, i, up, down));
            }
        }
        return sum;
    }

    static long limbOf(BigInteger value, int i) {
        return value.shiftRight(32 * i).longValue() & 0xFFFFFFFFL;
    }

    static int oddsOf(int n, int k, int up, int down, int side, int a, int b) {
        BigInteger left = aboveOf(n, k, up, down, side).multiply(BigInteger.valueOf(b));
        BigInteger right = BigInteger.valueOf(down).pow(n).multiply(BigInteger.valueOf(a));
        return 1 + left.compareTo(right);
    }

    static int boundOf(int n, int k, int side, int a, int b) {
        if (side == 0) {
            for (int q = 0; q <= 1000; q++) {
                if (oddsOf(n, k, q, 1000, 1, a, b) <= 1) {
                    return q;
                }
            }
            return 1000;
        }
        for (int q = 1000; q >= 0; q--) {
            if (oddsOf(n, k, q, 1000, 0, a, b) <= 1) {
                return q;
            }
        }
        return 0;
    }

    private static boolean hitsOutside(int n, int k, int up, int down, int side) {
        return n < 0 || n > 30 || k < 0 || k > n || down < 1 || down > 1000 || up < 0 || up > down
                || side < 0 || side > 1;
    }

    private static boolean noTrust(int a, int b) {
        return b < 2 || b > 1000 || a < 1 || a > b - 1;
    }

    long above(int n, int k, int up, int down, int side, int i) {
        if (hitsOutside(n, k, up, down, side) || i < 0 || i > 10) {
            return OUTSIDE;
        }
        return limbOf(aboveOf(n, k, up, down, side), i);
    }

    int odds(int n, int k, int up, int down, int side, int a, int b) {
        if (hitsOutside(n, k, up, down, side) || b < 1 || b > 1000 || a < 0 || a > b) {
            return OUTSIDE;
        }
        return oddsOf(n, k, up, down, side, a, b);
    }

    int bound(int n, int k, int side, int a, int b) {
        if (n < 1 || n > 30 || k < 0 || k > n || side < 0 || side > 1) {
            return OUTSIDE;
        }
        if (noTrust(a, b)) {
            throw new IllegalArgumentException();
        }
        return boundOf(n, k, side, a, b);
    }

    int row(int group, int x, int y) {
        if (group < 0 || group > 7 || x < 0 || x > 100 || y < 0 || y > 100) {
            return OUTSIDE;
        }
        if (rows.size() == 30) {
            return FULL;
        }
        rows.add(new Row(group, x, y));
        return rows.size();
    }

    int drop() {
        if (rows.isEmpty()) {
            return NONE;
        }
        rows.remove(rows.size() - 1);
        return rows.size();
    }

    private List<Unit> units(boolean groups) {
        List<Unit> units = new ArrayList<>();
        if (!groups) {
            for (Row row : rows) {
                units.add(new Unit(row.x - row.y, 1));
            }
            return units;
        }
        TreeSet<Integer> numbers = new TreeSet<>();
        for (Row row : rows) {
            numbers.add(row.group);
        }
        for (int number : numbers) {
            int difference = 0;
            int size = 0;
            for (Row row : rows) {
                if (row.group == number) {
                    difference += row.x - row.y;
                    size++;
                }
            }
            units.add(new Unit(difference, size));
        }
        return units;
    }

    long turned(boolean groups, int what) {
        if (what < 0 || what > 2) {
            return OUTSIDE;
        }
        Map<Integer, Long> waysBySum = new HashMap<>();
        waysBySum.put(0, 1L);
        int signs = 0;
        int s = 0;
        for (Unit unit : units(groups)) {
            s += unit.difference;
            if (unit.difference != 0) {
                signs++;
                Map<Integer, Long> next = new HashMap<>();
                for (Map.Entry<Integer, Long> entry : waysBySum.entrySet()) {
                    next.merge(entry.getKey() + unit.difference, entry.getValue(), Long::sum);
                    next.merge(entry.getKey() - unit.difference, entry.getValue(), Long::sum);
                }
                waysBySum = next;
            }
        }
        long ways = 0;
        for (Map.Entry<Integer, Long> entry : waysBySum.entrySet()) {
            int sum = entry.getKey();
            if (what == 1 ? sum >= s : Math.abs(sum) >= Math.abs(s)) {
                ways += entry.getValue();
            }
        }
        return what == 0 ? signs : ways;
    }

    int wins(int t, int what) {
        if (t < 0 || t > 101 || what < 0 || what > 1) {
            return OUTSIDE;
        }
        int many = 0;
        for (Row row : rows) {
            boolean x = row.x >= t;
            boolean y = row.y >= t;
            if (what == 0 ? x && !y : y && !x) {
                many++;
            }
        }
        return many;
    }

    long even(int t, int side) {
        if (t < 0 || t > 101 || side < 0 || side > 1) {
            return OUTSIDE;
        }
        int w = wins(t, 0);
        int l = wins(t, 1);
        BigInteger ways = aboveOf(w + l, Math.min(w, l), 1, 2, 1);
        return Fraction.of(ways.shiftLeft(1), BigInteger.TWO.pow(w + l)).atMostOne().told(side);
    }

    int draw(long seed, int times, boolean groups) {
        if (times < 1 || times > 60) {
            return OUTSIDE;
        }
        if (rows.isEmpty()) {
            return NONE;
        }
        means.clear();
        List<Unit> units = units(groups);
        long x = seed;
        for (int time = 0; time < times; time++) {
            int sum = 0;
            int size = 0;
            for (int i = 0; i < units.size(); i++) {
                x = x * 6364136223846793005L + 1442695040888963407L;
                Unit unit = units.get((int) ((x >>> 33) % units.size()));
                sum += unit.difference;
                size += unit.rows;
            }
            means.add(Fraction.of(sum, size));
        }
        means.sort(null);
        return units.size();
    }

    long drawn(int i, int side) {
        if (side < 0 || side > 1) {
            return OUTSIDE;
        }
        if (i < 0 || i >= means.size()) {
            throw new IndexOutOfBoundsException();
        }
        return means.get(i).told(side);
    }

    long percentile(int up, int down, int side) {
        if (down < 1 || down > 1000 || up < 0 || up > down || side < 0 || side > 1) {
            return OUTSIDE;
        }
        if (means.isEmpty()) {
            return NONE;
        }
        int ahead = 0;
        while (ahead * down < means.size() * up) {
            ahead++;
        }
        return means.get(ahead == 0 ? 0 : ahead - 1).told(side);
    }

    int share() {
        if (means.isEmpty()) {
            throw new ArithmeticException();
        }
        int many = 0;
        for (Fraction mean : means) {
            many += mean.upper.signum() > 0 ? 1 : 0;
        }
        return 1000 * many / means.size();
    }

    int compare(int up, int down) {
        if (down < 1 || down > 100000 || up < 0 || up > down) {
            return OUTSIDE;
        }
        if (compares.size() == 10) {
            return FULL;
        }
        compares.add(Fraction.of(up, down));
        return compares.size() - 1;
    }

    long raised(int way, int number, int side) {
        if (way < 0 || way > 2 || side < 0 || side > 1) {
            return OUTSIDE;
        }
        if (number < 0 || number >= compares.size()) {
            return NONE;
        }
        int m = compares.size();
        List<Integer> order = new ArrayList<>();
        for (int i = 0; i < m; i++) {
            order.add(i);
        }
        order.sort((one, other) -> compares.get(one).compareTo(compares.get(other)));
        int j = order.indexOf(number) + 1;
        Fraction odds = way == 0 ? compares.get(number).times(m, 1) : null;
        for (int i = 1; way == 1 && i <= j; i++) {
            Fraction other = compares.get(order.get(i - 1)).times(m + 1 - i, 1);
            odds = odds == null || other.compareTo(odds) > 0 ? other : odds;
        }
        for (int i = j; way == 2 && i <= m; i++) {
            Fraction other = compares.get(order.get(i - 1)).times(m, i);
            odds = odds == null || other.compareTo(odds) < 0 ? other : odds;
        }
        return odds.atMostOne().told(side);
    }

    int forget() {
        int were = compares.size();
        compares.clear();
        return were;
    }

    int begin(int up, int down, int a, int b) {
        if (down < 2 || down > 100 || up < 1 || up > down - 1) {
            return OUTSIDE;
        }
        if (noTrust(a, b)) {
            throw new IllegalArgumentException();
        }
        test = new int[] {up, down, a, b};
        tries.clear();
        rejected = 0;
        return 1;
    }

    private int hits() {
        int hits = 0;
        for (boolean is : tries) {
            hits += is ? 1 : 0;
        }
        return hits;
    }

    private boolean rich() {
        int n = tries.size();
        Fraction wealth = Fraction.of(BigInteger.valueOf(test[1]).pow(n),
                term(n, hits(), test[0], test[1]).multiply(BigInteger.valueOf(n + 1)));
        return wealth.compareTo(Fraction.of(test[3], test[2])) >= 0;
    }

    int hit(boolean is) {
        if (test == null) {
            return NONE;
        }
        if (tries.size() == 60) {
            return FULL;
        }
        tries.add(is);
        if (rejected == 0 && rich()) {
            rejected = tries.size();
        }
        return rejected > 0 ? 1 : 0;
    }

    int test(int what) {
        if (test == null) {
            return NONE;
        }
        if (what < 0 || what > 3) {
            return OUTSIDE;
        }
        return new int[] {tries.size(), hits(), rejected, rich() ? 1 : 0}[what];
    }

    int count(int what) {
        if (what < 0 || what > 3) {
            return OUTSIDE;
        }
        return new int[] {rows.size(), units(true).size(), means.size(), compares.size()}[what];
    }

    int clear() {
        int were = rows.size();
        rows.clear();
        means.clear();
        compares.clear();
        test = null;
        tries.clear();
        rejected = 0;
        return were;
    }
}
