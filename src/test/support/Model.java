import java.math.BigInteger;
import java.util.ArrayList;
import java.util.List;

/**
 * The document told a second time, without regard to room or speed: fractions of big numbers, the
 * force by trying every set of stretched gaps, the breaking by trying every set of bars.
 */
final class Model {
    record Fraction(BigInteger above, BigInteger below) {
        static Fraction of(long above, long below) {
            return lowest(BigInteger.valueOf(above), BigInteger.valueOf(below));
        }

        private static Fraction lowest(BigInteger above, BigInteger below) {
            BigInteger divisor = above.gcd(below);
            return new Fraction(above.divide(divisor), below.divide(divisor));
        }

        Fraction plus(Fraction other) {
            return lowest(above.multiply(other.below).add(other.above.multiply(below)),
                    below.multiply(other.below));
        }

        Fraction times(long one, long two) {
            return lowest(above.multiply(BigInteger.valueOf(one)),
                    below.multiply(BigInteger.valueOf(two)));
        }

        boolean isBelow(Fraction other) {
            return above.multiply(other.below).compareTo(other.above.multiply(below)) < 0;
        }

        Fraction orMore(Fraction other) {
            return isBelow(other) ? other : this;
        }

        long down() {
            return above.divide(below).longValueExact();
        }

        long up() {
            return above.add(below).subtract(BigInteger.ONE).divide(below).longValueExact();
        }
    }

    private record Item(int left, int right) {
    }

    private record Need(int from, int to, long width) {
    }

    private static final Fraction ZERO = Fraction.of(0, 1);

    private int base = 10;
    private int more = 6;
    private final List<Integer> times = new ArrayList<>();
    private int[] told = new int[24];
    private boolean[] bars = new boolean[24];
    private Item[][] items = new Item[4][24];
    private final List<Need> rods = new ArrayList<>();

    private boolean atHand;
    private int first;
    private int last;
    private long[] leasts;
    private Fraction force;
    private int over;

    private List<Integer> begins;
    private long cost;

    private void change() {
        atHand = false;
        begins = null;
    }

    private boolean isColumn(int column) {
        return column >= 0 && column < times.size();
    }

    private static boolean in(int number, int high) {
        return number >= 0 && number <= high;
    }

    int table(int newBase, int newMore) {
        if (!in(newBase, 100) || !in(newMore, 100)) return -2;
        base = newBase;
        more = newMore;
        change();
        return 1;
    }

    int column(int time) {
        if (!in(time, 100000)) return -2;
        if (!times.isEmpty() && times.get(times.size() - 1) >= time) return -3;
        if (times.size() == 24) return -4;
        times.add(time);
        change();
        return times.size() - 1;
    }

    int clear() {
        int before = times.size();
        times.clear();
        told = new int[24];
        bars = new boolean[24];
        items = new Item[4][24];
        for (int r = 0; r < rods.size(); r++) rods.set(r, null);
        change();
        return before;
    }

    long spring(int duration) {
        if (duration < 1 || duration > 100000) return -2;
        int k = (int) (Math.log(duration) / Math.log(2));
        if (1L << k > duration) k--;
        if (1L << (k + 1) <= duration) k++;
        long power = 1L << k;
        return 65536L * (base + (long) more * k) + more * (duration - power) * 65536L / power;
    }

    int least(int gap, int width) {
        if (gap < 0 || gap >= times.size() - 1) return -1;
        if (!in(width, 1000)) return -2;
        int before = told[gap];
        told[gap] = width;
        change();
        return before;
    }

    int item(int staff, int column, int left, int right) {
        if (!in(staff, 3) || !isColumn(column)) return -1;
        if (!in(left, 500) || !in(right, 500)) return -2;
        int answer = items[staff][column] == null ? 1 : 0;
        items[staff][column] = new Item(left, right);
        change();
        return answer;
    }

    int remove(int staff, int column) {
        if (!in(staff, 3) || !isColumn(column) || items[staff][column] == null) return -1;
        items[staff][column] = null;
        change();
        return 1;
    }

    int rod(int from, int to, int width) {
        if (!isColumn(from) || !isColumn(to)) return -1;
        if (from >= to || !in(width, 5000)) return -2;
        if (rods.size() == 20) return -4;
        rods.add(new Need(from, to, width));
        change();
        return rods.size() - 1;
    }

    int drop(int rod) {
        if (rod < 0 || rod >= rods.size() || rods.get(rod) == null) return -1;
        rods.set(rod, null);
        change();
        int left = 0;
        for (Need other : rods) left += other == null ? 0 : 1;
        return left;
    }

    int bar(int column, boolean is) {
        if (!isColumn(column)) return -1;
        int before = bars[column] ? 1 : 0;
        bars[column] = is;
        change();
        return before;
    }

    private long springOfGap(int gap) {
        return spring(times.get(gap + 1) - times.get(gap));
    }

    private List<Need> needs() {
        List<Need> needs = new ArrayList<>();
        for (Item[] staff : items) {
            for (int a = 0; a < 24; a++) {
                for (int b = a + 1; b < 24 && staff[a] != null; b++) {
                    if (staff[b] != null) {
                        needs.add(new Need(a, b, staff[a].right() + staff[b].left()));
                        break;
                    }
                }
            }
        }
        for (Need rod : rods) if (rod != null) needs.add(rod);
        return needs;
    }

    private static long sum(long[] row, int from, int to) {
        long sum = 0;
        for (int i = from; i < to; i++) sum += row[i];
        return sum;
    }

    private Fraction stretched(long[] widths, int from, int to, Fraction f) {
        Fraction sum = ZERO;
        for (int gap = from; gap < to; gap++) {
            sum = sum.plus(Fraction.of(widths[gap], 1).orMore(f.times(springOfGap(gap), 1)));
        }
        return sum;
    }

    /** The least f; null if no f will do. The stretched gaps are those up to some quotient. */
    private Fraction forceOf(long[] widths, int from, int to, long width) {
        Fraction due = Fraction.of(width, 1);
        if (!stretched(widths, from, to, ZERO).isBelow(due)) return ZERO;
        Fraction best = null;
        for (int edge = from; edge < to; edge++) {
            if (springOfGap(edge) == 0) continue;
            Fraction most = Fraction.of(widths[edge], springOfGap(edge));
            long rest = width;
            long springs = 0;
            for (int gap = from; gap < to; gap++) {
                long spring = springOfGap(gap);
                if (spring > 0 && !most.isBelow(Fraction.of(widths[gap], spring))) springs += spring;
                else rest -= widths[gap];
            }
            if (rest < 0) continue;
            Fraction f = Fraction.of(rest, springs);
            if (!stretched(widths, from, to, f).isBelow(due) && (best == null || f.isBelow(best))) best = f;
        }
        return best;
    }

    private long[] settle(int from, int to) {
        long[] widths = new long[24];
        for (int gap = from; gap < to; gap++) widths[gap] = told[gap];
        for (Need need : needs()) {
            if (need.from() < from || need.to() > to) continue;
            long lacking = need.width() - sum(widths, need.from(), need.to());
            if (lacking <= 0) continue;
            Fraction f = forceOf(widths, need.from(), need.to(), need.width());
            if (f == null) {
                widths[need.to() - 1] += lacking;
                continue;
            }
            for (int gap = need.from(); gap < need.to(); gap++) {
                widths[gap] = Math.max(widths[gap], f.times(springOfGap(gap), 1).up());
            }
        }
        return widths;
    }

    int run(int extent) {
        if (!in(extent, 20000)) return -2;
        if (times.size() < 2) return -3;
        return line(0, times.size() - 1, extent);
    }

    int line(int from, int to, int extent) {
        if (!isColumn(from) || !isColumn(to)) return -1;
        if (from >= to || !in(extent, 20000)) return -2;
        atHand = true;
        first = from;
        last = to;
        leasts = settle(from, to);
        Fraction f = forceOf(leasts, from, to, extent);
        force = f == null ? ZERO : f;
        long sum = sum(leasts, from, to);
        over = (int) Math.max(0, sum - extent);
        return over > 0 ? 1 : f == null ? 2 : 0;
    }

    int over() {
        return atHand ? over : -3;
    }

    private static long part(Fraction fraction, int part) {
        return (part == 0 ? fraction.above() : fraction.below()).longValueExact();
    }

    long force(int part) {
        if (part != 0 && part != 1) return -2;
        return atHand ? part(force, part) : -3;
    }

    private Fraction widthOf(int gap) {
        return Fraction.of(leasts[gap], 1).orMore(force.times(springOfGap(gap), 1));
    }

    private Fraction before(int column) {
        Fraction sum = ZERO;
        for (int gap = first; gap < column; gap++) sum = sum.plus(widthOf(gap));
        return sum;
    }

    long width(int gap, int part) {
        if (!atHand) return -3;
        if (gap < first || gap >= last) return -1;
        return part == 0 || part == 1 ? part(widthOf(gap), part) : -2;
    }

    int settled(int gap) {
        if (!atHand) return -3;
        return gap < first || gap >= last ? -1 : (int) leasts[gap];
    }

    int place(int column) {
        if (!atHand) return -3;
        return column < first || column > last ? -1 : (int) before(column).down();
    }

    int level(int time) {
        if (!atHand) return -3;
        if (time < times.get(first) || time > times.get(last)) return -2;
        for (int column = first; column <= last; column++) {
            if (times.get(column) == time) return place(column);
        }
        int gap = first;
        while (times.get(gap + 1) < time) gap++;
        Fraction share = widthOf(gap).times(time - times.get(gap), times.get(gap + 1) - times.get(gap));
        return (int) before(gap).plus(share).down();
    }

    int natural(int from, int to) {
        if (!isColumn(from) || !isColumn(to)) return -1;
        if (from >= to) return -2;
        long[] widths = settle(from, to);
        long sum = 0;
        for (int gap = from; gap < to; gap++) sum += Math.max(widths[gap], springOfGap(gap) / 65536);
        return (int) sum;
    }

    private long costOf(int from, int to, int extent) {
        long natural = natural(from, to);
        if (to == times.size() - 1 && natural <= extent) return 0;
        long leastSum = sum(settle(from, to), from, to);
        return (extent - natural) * (extent - natural) + (leastSum > extent ? 1000000000L : 0);
    }

    private static boolean better(long cost, List<Integer> breaks, long oldCost, List<Integer> old) {
        if (old == null || cost != oldCost) return old == null || cost < oldCost;
        if (breaks.size() != old.size()) return breaks.size() < old.size();
        for (int k = 0; k < breaks.size(); k++) {
            if (!breaks.get(k).equals(old.get(k))) return breaks.get(k) > old.get(k);
        }
        return false;
    }

    int lines(int extent) {
        if (!in(extent, 20000)) return -2;
        if (times.size() < 2) return -3;
        int end = times.size() - 1;
        List<Integer> inner = new ArrayList<>();
        for (int column = 1; column < end; column++) if (bars[column]) inner.add(column);
        long[][] costs = new long[end + 1][end + 1];
        for (long[] row : costs) java.util.Arrays.fill(row, -1);
        List<Integer> best = null;
        for (int set = 0; set < 1 << inner.size(); set++) {
            List<Integer> breaks = new ArrayList<>();
            breaks.add(0);
            for (int i = 0; i < inner.size(); i++) if ((set >> i & 1) == 1) breaks.add(inner.get(i));
            breaks.add(end);
            long sum = 0;
            for (int k = 0; k + 1 < breaks.size(); k++) {
                int from = breaks.get(k);
                int to = breaks.get(k + 1);
                if (costs[from][to] < 0) costs[from][to] = costOf(from, to, extent);
                sum += costs[from][to];
            }
            if (better(sum, breaks, cost, best)) {
                best = breaks;
                cost = sum;
            }
        }
        begins = best;
        return best.size() - 1;
    }

    int begin(int k) {
        if (begins == null) return -3;
        return k < 0 || k >= begins.size() ? -1 : begins.get(k);
    }

    long cost() {
        return begins == null ? -3 : cost;
    }
}
