/**
 * Spaces columns of notes: springs by durations, least widths from what stands at the columns and
 * from rods over spans, stretched exactly to a line or broken at bars into lines.
 *
 * <p>All rows are made with the object and used again, so that no call makes anything new.
 */
public final class SpringSpaces {
    private static final int NO_SUCH = -1;
    private static final int OUT_OF_BOUNDS = -2;
    private static final int NOT_IN_THIS_STATE = -3;
    private static final int NO_ROOM = -4;

    private static final int MOST_COLUMNS = 24;
    private static final int STAVES = 4;
    private static final int MOST_RODS = 20;
    private static final int MOST_NEEDS = STAVES * (MOST_COLUMNS - 1) + MOST_RODS;

    private static final int LATEST_TIME = 100000;
    private static final int MOST_IN_TABLE = 100;
    private static final int WIDEST_LEAST = 1000;
    private static final int WIDEST_ITEM_SIDE = 500;
    private static final int WIDEST_ROD = 5000;
    private static final int WIDEST_EXTENT = 20000;

    private static final int MOST_DOUBLINGS = 16;
    private static final long SPRING_UNIT = 65536;
    private static final long OVERFULL_COST = 1000000000;

    private static final int FITTING = 0;
    private static final int OVERFULL = 1;
    private static final int LOOSE = 2;

    private final Columns columns = new Columns();
    private final Items items = new Items();
    private final Rods rods = new Rods();
    private final Needs needs = new Needs();
    private final Line hand = new Line();
    // A line of its own for trying, so that natural and lines leave the line at hand as it is.
    private final Line trial = new Line();
    private final Breaks breaks = new Breaks();
    private boolean atHand = false;
    private boolean broken = false;

    public SpringSpaces() {
    }

    public int table(int base, int more) {
        if (!within(base, 0, MOST_IN_TABLE) || !within(more, 0, MOST_IN_TABLE)) {
            return OUT_OF_BOUNDS;
        }
        forgetAnswers();
        columns.useTable(base, more);
        return 1;
    }

    public int column(int time) {
        if (!within(time, 0, LATEST_TIME)) {
            return OUT_OF_BOUNDS;
        }
        if (!columns.mayFollow(time)) {
            return NOT_IN_THIS_STATE;
        }
        if (columns.areFull()) {
            return NO_ROOM;
        }
        forgetAnswers();
        return columns.append(time);
    }

    public int clear() {
        forgetAnswers();
        items.takeAll();
        rods.takeAll();
        return columns.takeAll();
    }

    public long spring(int duration) {
        if (!within(duration, 1, LATEST_TIME)) {
            return OUT_OF_BOUNDS;
        }
        return columns.springFor(duration);
    }

    public int least(int gap, int width) {
        if (!columns.haveGap(gap)) {
            return NO_SUCH;
        }
        if (!within(width, 0, WIDEST_LEAST)) {
            return OUT_OF_BOUNDS;
        }
        forgetAnswers();
        return columns.setLeast(gap, width);
    }

    public int item(int staff, int column, int left, int right) {
        if (!isStaff(staff) || !columns.have(column)) {
            return NO_SUCH;
        }
        if (!within(left, 0, WIDEST_ITEM_SIDE) || !within(right, 0, WIDEST_ITEM_SIDE)) {
            return OUT_OF_BOUNDS;
        }
        forgetAnswers();
        return items.put(staff, column, left, right) ? 0 : 1;
    }

    public int remove(int staff, int column) {
        if (!isStaff(staff) || !columns.have(column) || !items.have(staff, column)) {
            return NO_SUCH;
        }
        forgetAnswers();
        items.take(staff, column);
        return 1;
    }

    public int rod(int from, int to, int width) {
        if (!columns.have(from) || !columns.have(to)) {
            return NO_SUCH;
        }
        if (from >= to || !within(width, 0, WIDEST_ROD)) {
            return OUT_OF_BOUNDS;
        }
        if (rods.areUsedUp()) {
            return NO_ROOM;
        }
        forgetAnswers();
        return rods.put(from, to, width);
    }

    public int drop(int rod) {
        if (!rods.have(rod)) {
            return NO_SUCH;
        }
        forgetAnswers();
        return rods.take(rod);
    }

    public int bar(int column, boolean is) {
        if (!columns.have(column)) {
            return NO_SUCH;
        }
        forgetAnswers();
        return columns.setBar(column, is) ? 1 : 0;
    }

    // ---- one line

    public int run(int extent) {
        if (!isExtent(extent)) {
            return OUT_OF_BOUNDS;
        }
        if (!columns.haveGap(0)) {
            return NOT_IN_THIS_STATE;
        }
        return takeInHand(0, columns.lastOne(), extent);
    }

    public int line(int first, int last, int extent) {
        if (!columns.have(first) || !columns.have(last)) {
            return NO_SUCH;
        }
        if (first >= last || !isExtent(extent)) {
            return OUT_OF_BOUNDS;
        }
        return takeInHand(first, last, extent);
    }

    public int over() {
        if (!atHand) {
            return NOT_IN_THIS_STATE;
        }
        return hand.excess();
    }

    public long force(int part) {
        if (!isPart(part)) {
            return OUT_OF_BOUNDS;
        }
        if (!atHand) {
            return NOT_IN_THIS_STATE;
        }
        return hand.forcePart(part);
    }

    public long width(int gap, int part) {
        if (!atHand) {
            return NOT_IN_THIS_STATE;
        }
        if (!hand.hasGap(gap)) {
            return NO_SUCH;
        }
        if (!isPart(part)) {
            return OUT_OF_BOUNDS;
        }
        return hand.widthPart(gap, part);
    }

    public int settled(int gap) {
        if (!atHand) {
            return NOT_IN_THIS_STATE;
        }
        if (!hand.hasGap(gap)) {
            return NO_SUCH;
        }
        return hand.leastOf(gap);
    }

    public int place(int column) {
        if (!atHand) {
            return NOT_IN_THIS_STATE;
        }
        if (!hand.hasColumn(column)) {
            return NO_SUCH;
        }
        return hand.placeOf(column);
    }

    public int level(int time) {
        if (!atHand) {
            return NOT_IN_THIS_STATE;
        }
        if (!hand.spans(columns, time)) {
            return OUT_OF_BOUNDS;
        }
        return hand.placeAt(columns, time);
    }

    // ---- lines

    public int lines(int extent) {
        if (!isExtent(extent)) {
            return OUT_OF_BOUNDS;
        }
        if (!columns.haveGap(0)) {
            return NOT_IN_THIS_STATE;
        }
        needs.gather(items, rods, columns.size());
        breaks.choose(columns, needs, trial, extent);
        broken = true;
        return breaks.size();
    }

    public int begin(int k) {
        if (!broken) {
            return NOT_IN_THIS_STATE;
        }
        if (!within(k, 0, breaks.size())) {
            return NO_SUCH;
        }
        return breaks.beginOf(k);
    }

    public long cost() {
        if (!broken) {
            return NOT_IN_THIS_STATE;
        }
        return breaks.wholeCost();
    }

    public int natural(int first, int last) {
        if (!columns.have(first) || !columns.have(last)) {
            return NO_SUCH;
        }
        if (first >= last) {
            return OUT_OF_BOUNDS;
        }
        needs.gather(items, rods, columns.size());
        trial.settle(columns, needs, first, last);
        return (int) trial.naturalWidth();
    }

    private int takeInHand(int first, int last, int extent) {
        needs.gather(items, rods, columns.size());
        hand.settle(columns, needs, first, last);
        atHand = true;
        return hand.stretch(extent);
    }

    private void forgetAnswers() {
        atHand = false;
        broken = false;
    }

    private static boolean isStaff(int staff) {
        return within(staff, 0, STAVES - 1);
    }

    private static boolean isExtent(int extent) {
        return within(extent, 0, WIDEST_EXTENT);
    }

    private static boolean isPart(int part) {
        return part == 0 || part == 1;
    }

    private static boolean within(int number, int low, int high) {
        return low <= number && number <= high;
    }

    private static long sumOf(long[] row, int from, int to) {
        long sum = 0;
        for (int i = from; i < to; i++) {
            sum += row[i];
        }
        return sum;
    }

    private static long dividedDown(long above, long below) {
        return below > 0 ? Math.floorDiv(above, below) : 0;
    }

    private static long dividedUp(long above, long below) {
        return -dividedDown(-above, below);
    }

    /** At least 1, so that it may divide. */
    private static long commonDivisor(long one, long other) {
        long a = one;
        long b = other;
        // Every two steps halve a number of 63 bits at least, so 128 are enough.
        for (int step = 0; step < 128 && b != 0; step++) {
            long rest = a % b;
            a = b;
            b = rest;
        }
        return Math.max(1, a);
    }

    /** The columns with their times and bars, the gaps behind them with their leasts, the table. */
    private static final class Columns {
        private final int[] times = new int[MOST_COLUMNS];
        private final int[] leasts = new int[MOST_COLUMNS];
        private final boolean[] bars = new boolean[MOST_COLUMNS];
        private int count = 0;
        private int base = 10;
        private int more = 6;

        void useTable(int newBase, int newMore) {
            base = newBase;
            more = newMore;
        }

        int size() {
            return count;
        }

        int lastOne() {
            return count - 1;
        }

        boolean areFull() {
            return count >= MOST_COLUMNS;
        }

        boolean have(int column) {
            return within(column, 0, count - 1);
        }

        boolean haveGap(int gap) {
            return within(gap, 0, count - 2);
        }

        boolean mayFollow(int time) {
            return count == 0 || time > times[count - 1];
        }

        int append(int time) {
            int column = count;
            times[column] = time;
            leasts[column] = 0;
            bars[column] = false;
            count++;
            return column;
        }

        int takeAll() {
            int before = count;
            count = 0;
            return before;
        }

        int setLeast(int gap, int width) {
            int before = leasts[gap];
            leasts[gap] = width;
            return before;
        }

        boolean setBar(int column, boolean is) {
            boolean before = bars[column];
            bars[column] = is;
            return before;
        }

        int timeOf(int column) {
            return times[column];
        }

        int toldLeastOf(int gap) {
            return leasts[gap];
        }

        int durationOf(int gap) {
            return times[gap + 1] - times[gap];
        }

        boolean mayBreakAt(int column) {
            return column == 0 || column == count - 1 || bars[column];
        }

        long springFor(int duration) {
            int doublings = 0;
            while (doublings < MOST_DOUBLINGS && (2 << doublings) <= duration) {
                doublings++;
            }
            long beyond = duration - (1 << doublings);
            long whole = SPRING_UNIT * (base + more * doublings);
            return whole + more * beyond * (SPRING_UNIT >> doublings);
        }
    }

    /** What stands at the columns on the staves. */
    private static final class Items {
        private final boolean[] there = new boolean[STAVES * MOST_COLUMNS];
        private final int[] lefts = new int[STAVES * MOST_COLUMNS];
        private final int[] rights = new int[STAVES * MOST_COLUMNS];

        private static int seat(int staff, int column) {
            return staff * MOST_COLUMNS + column;
        }

        boolean have(int staff, int column) {
            return there[seat(staff, column)];
        }

        int leftOf(int staff, int column) {
            return lefts[seat(staff, column)];
        }

        int rightOf(int staff, int column) {
            return rights[seat(staff, column)];
        }

        /** Whether there was one already. */
        boolean put(int staff, int column, int left, int right) {
            int at = seat(staff, column);
            boolean before = there[at];
            there[at] = true;
            lefts[at] = left;
            rights[at] = right;
            return before;
        }

        void take(int staff, int column) {
            there[seat(staff, column)] = false;
        }

        void takeAll() {
            for (int at = 0; at < there.length; at++) {
                there[at] = false;
            }
        }
    }

    /** The rods by their numbers; numbers go on after takeAll too, since none may come again. */
    private static final class Rods {
        private final boolean[] there = new boolean[MOST_RODS];
        private final int[] froms = new int[MOST_RODS];
        private final int[] tos = new int[MOST_RODS];
        private final int[] widths = new int[MOST_RODS];
        private int numbers = 0;
        private int count = 0;

        boolean areUsedUp() {
            return numbers >= MOST_RODS;
        }

        int numbersGiven() {
            return numbers;
        }

        boolean have(int rod) {
            return within(rod, 0, numbers - 1) && there[rod];
        }

        int put(int from, int to, int width) {
            int rod = numbers;
            there[rod] = true;
            froms[rod] = from;
            tos[rod] = to;
            widths[rod] = width;
            numbers++;
            count++;
            return rod;
        }

        /** How many are left. */
        int take(int rod) {
            there[rod] = false;
            count--;
            return count;
        }

        void takeAll() {
            for (int rod = 0; rod < numbers; rod++) {
                there[rod] = false;
            }
            count = 0;
        }

        int fromOf(int rod) {
            return froms[rod];
        }

        int toOf(int rod) {
            return tos[rod];
        }

        int widthOf(int rod) {
            return widths[rod];
        }
    }

    /** The rows of needs in the order in which they are met. */
    private static final class Needs {
        private final int[] froms = new int[MOST_NEEDS];
        private final int[] tos = new int[MOST_NEEDS];
        private final int[] widths = new int[MOST_NEEDS];
        private int count = 0;

        void gather(Items items, Rods rods, int columns) {
            count = 0;
            for (int staff = 0; staff < STAVES; staff++) {
                gatherStaff(items, staff, columns);
            }
            for (int rod = 0; rod < rods.numbersGiven(); rod++) {
                if (rods.have(rod)) {
                    note(rods.fromOf(rod), rods.toOf(rod), rods.widthOf(rod));
                }
            }
        }

        private void gatherStaff(Items items, int staff, int columns) {
            int before = -1;
            for (int column = 0; column < columns; column++) {
                if (items.have(staff, column)) {
                    if (before >= 0) {
                        int width = items.rightOf(staff, before) + items.leftOf(staff, column);
                        note(before, column, width);
                    }
                    before = column;
                }
            }
        }

        private void note(int from, int to, int width) {
            if (count < MOST_NEEDS) {
                froms[count] = from;
                tos[count] = to;
                widths[count] = width;
                count++;
            }
        }

        int size() {
            return count;
        }

        int fromOf(int need) {
            return froms[need];
        }

        int toOf(int need) {
            return tos[need];
        }

        int widthOf(int need) {
            return widths[need];
        }
    }

    /** The least fraction that stretches some gaps to a width. */
    private static final class Force {
        private long above = 0;
        private long below = 1;

        long above() {
            return above;
        }

        long below() {
            return below;
        }

        /** Whether the width is reached: without a spring above 0 it may not be (the force is 0). */
        boolean find(long[] leasts, long[] springs, int from, int to, long width) {
            above = 0;
            below = 1;
            if (sumOf(leasts, from, to) >= width) {
                return true;
            }
            if (sumOf(springs, from, to) <= 0) {
                return false;
            }
            // 1 / 0 stands above every fraction: at first each gap with a spring gives way.
            above = 1;
            below = 0;
            boolean falling = true;
            for (int round = from; round < to && falling; round++) {
                long before = below;
                fit(leasts, springs, from, to, width);
                falling = below != before;
            }
            return true;
        }

        /**
         * The force falls from round to round, since a gap whose least is more than the force
         * gives it takes more of the width than was thought; so such a gap never gives way later.
         */
        private void fit(long[] leasts, long[] springs, int from, int to, long width) {
            long rest = width;
            long pulling = 0;
            for (int gap = from; gap < to; gap++) {
                if (springs[gap] > 0 && leasts[gap] * below <= above * springs[gap]) {
                    pulling += springs[gap];
                } else {
                    rest -= leasts[gap];
                }
            }
            above = rest;
            below = pulling;
        }

        void bringToLowestTerms() {
            long divisor = commonDivisor(above, below);
            above /= divisor;
            below /= divisor;
        }
    }

    /** A line of the gaps first .. last - 1: settled, then stretched to an extent. */
    private static final class Line {
        private final long[] leasts = new long[MOST_COLUMNS];
        private final long[] springs = new long[MOST_COLUMNS];
        private final Force force = new Force();
        private int first = 0;
        private int last = 0;
        private long excess = 0;

        void settle(Columns columns, Needs needs, int newFirst, int newLast) {
            first = newFirst;
            last = newLast;
            for (int gap = first; gap < last; gap++) {
                leasts[gap] = columns.toldLeastOf(gap);
                springs[gap] = columns.springFor(columns.durationOf(gap));
            }
            for (int need = 0; need < needs.size(); need++) {
                if (needs.fromOf(need) >= first && needs.toOf(need) <= last) {
                    meet(needs.fromOf(need), needs.toOf(need), needs.widthOf(need));
                }
            }
        }

        private void meet(int from, int to, long width) {
            long lacking = width - sumOf(leasts, from, to);
            if (lacking <= 0) {
                return;
            }
            if (!force.find(leasts, springs, from, to, width)) {
                leasts[to - 1] += lacking;
                return;
            }
            for (int gap = from; gap < to; gap++) {
                long stretched = dividedUp(force.above() * springs[gap], force.below());
                leasts[gap] = Math.max(leasts[gap], stretched);
            }
        }

        int stretch(int extent) {
            boolean reached = force.find(leasts, springs, first, last, extent);
            force.bringToLowestTerms();
            excess = Math.max(0, sumOfLeasts() - extent);
            if (excess > 0) {
                return OVERFULL;
            }
            return reached ? FITTING : LOOSE;
        }

        long sumOfLeasts() {
            return sumOf(leasts, first, last);
        }

        long naturalWidth() {
            long sum = 0;
            for (int gap = first; gap < last; gap++) {
                sum += Math.max(leasts[gap], springs[gap] / SPRING_UNIT);
            }
            return sum;
        }

        boolean hasGap(int gap) {
            return within(gap, first, last - 1);
        }

        boolean hasColumn(int column) {
            return within(column, first, last);
        }

        boolean spans(Columns columns, int time) {
            return within(time, columns.timeOf(first), columns.timeOf(last));
        }

        int excess() {
            return (int) excess;
        }

        int leastOf(int gap) {
            return (int) leasts[gap];
        }

        long forcePart(int part) {
            return part == 0 ? force.above() : force.below();
        }

        long widthPart(int gap, int part) {
            long above = widthAbove(gap);
            long below = force.below();
            return (part == 0 ? above : below) / commonDivisor(above, below);
        }

        int placeOf(int column) {
            return (int) dividedDown(widthsAboveBefore(column), force.below());
        }

        /**
         * Fits in a long: with a force above 0 the widths make the extent, so all is at most
         * 20000 (extent) * 24 * 2^27 (springs) * 100000 (duration); else below is 1.
         */
        int placeAt(Columns columns, int time) {
            int gap = first;
            while (gap + 1 < last && columns.timeOf(gap + 1) <= time) {
                gap++;
            }
            long duration = columns.durationOf(gap);
            long since = time - columns.timeOf(gap);
            long above = widthsAboveBefore(gap) * duration + widthAbove(gap) * since;
            return (int) dividedDown(above, force.below() * duration);
        }

        /** A width with the force's own below, so that widths can be summed as they are. */
        private long widthAbove(int gap) {
            return Math.max(leasts[gap] * force.below(), force.above() * springs[gap]);
        }

        private long widthsAboveBefore(int column) {
            long sum = 0;
            for (int gap = first; gap < column; gap++) {
                sum += widthAbove(gap);
            }
            return sum;
        }
    }

    /** The best breaking into lines; rows by column tell of the lines from that column on. */
    private static final class Breaks {
        private final long[] costs = new long[MOST_COLUMNS];
        private final int[] counts = new int[MOST_COLUMNS];
        private final int[] nexts = new int[MOST_COLUMNS];
        private final int[] begins = new int[MOST_COLUMNS];
        private int size = 0;

        void choose(Columns columns, Needs needs, Line trial, int extent) {
            int end = columns.lastOne();
            costs[end] = 0;
            counts[end] = 0;
            for (int from = end - 1; from >= 0; from--) {
                if (columns.mayBreakAt(from)) {
                    chooseFrom(from, columns, needs, trial, extent);
                }
            }
            tellBegins(end);
        }

        /** Longer lines are tried first, and only a better one takes their place. */
        private void chooseFrom(int from, Columns columns, Needs needs, Line trial, int extent) {
            int end = columns.lastOne();
            for (int to = end; to > from; to--) {
                if (columns.mayBreakAt(to)) {
                    trial.settle(columns, needs, from, to);
                    long cost = costOf(trial, extent, to == end) + costs[to];
                    int count = 1 + counts[to];
                    boolean better = cost < costs[from]
                            || cost == costs[from] && count < counts[from];
                    if (to == end || better) {
                        costs[from] = cost;
                        counts[from] = count;
                        nexts[from] = to;
                    }
                }
            }
        }

        private static long costOf(Line trial, int extent, boolean isLast) {
            long rest = extent - trial.naturalWidth();
            if (isLast && rest >= 0) {
                return 0;
            }
            long squared = rest * rest;
            return trial.sumOfLeasts() > extent ? squared + OVERFULL_COST : squared;
        }

        private void tellBegins(int end) {
            size = counts[0];
            int column = 0;
            for (int k = 0; k < size && column < end; k++) {
                begins[k] = column;
                column = nexts[column];
            }
            begins[size] = end;
        }

        int size() {
            return size;
        }

        int beginOf(int k) {
            return begins[k];
        }

        long wholeCost() {
            return costs[0];
        }
    }
}
