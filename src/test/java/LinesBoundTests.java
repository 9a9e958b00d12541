/** Promises 20 to 23 and the terms of breaking: for each boundary case a test of its own. */
public final class LinesBoundTests {
    private static final long TOO_WIDE = 1000000000;

    private final Due due = new Due();

    public static void main(String[] args) {
        LinesBoundTests tests = new LinesBoundTests();
        tests.breaking();
        tests.lines();
        tests.begin();
        tests.cost();
        tests.natural();
        tests.due.end();
    }

    private Rows says(String sentence) {
        return new Rows(due, sentence);
    }

    private void breaking() {
        breakingWithoutBars();
        breakingAtTheOutermostBars();
        breakingAtEachBar();
        breakingSettledAlone();
        breakingTheLeastSum();
        breakingAnew();
        breakingTheFewestLines();
        breakingTheFewestThoughTheFirstIsShorter();
        breakingTheLongestFirst();
        breakingTheLongestSecond();
    }

    private void lines() {
        linesWithoutAGap();
        linesAtTheBoundsOfExtent();
        linesOutsideTheBoundsOfExtent();
        linesRefusalsInOrder();
        linesLeaveTheLine();
        linesAsManyAsThereMayBe();
    }

    private void begin() {
        beginWithoutLines();
        beginOfNoLine();
        beginAtTheirNumber();
        beginOfTheLatest();
        beginAfterEachChange();
        beginRefusalsInOrder();
    }

    private void cost() {
        costWithoutLines();
        costSquared();
        costOfTooWideALine();
        costOfTheLastLine();
        costOfTheLatest();
        costOfTheWidest();
    }

    private void natural() {
        naturalOfNoColumns();
        naturalFirstNotBelowLast();
        naturalRefusalsInOrder();
        naturalRoundedDown();
        naturalOfLeastOrSpring();
        naturalOfTheLargestNumbers();
        naturalChangesNothing();
    }

    private void breakingWithoutBars() {
        says("COLUMN 0, the last one, and those with a BAR are where lines may begin and end").even(3)
                .make("table 0 0", "least 0 5", "least 1 5").broken(5, 0, 2).make("cost = " + (TOO_WIDE + 25))
                .make("bar 1 true = 0").broken(5, 0, 1, 2).make("cost = 0")
                .make("bar 1 false = 1").broken(5, 0, 2);
    }

    private void breakingAtTheOutermostBars() {
        String sentence = "COLUMN 0, the last one, and those with a BAR";
        for (String first : new String[] {"bar 0 true", "bar 0 false"}) {
            for (String last : new String[] {"bar 2 true", "bar 2 false"}) {
                says(sentence).blocks(5, 5).make(first, last).broken(5, 0, 1, 2).broken(10, 0, 2);
            }
        }
        // A bar at what was the last column counts when others follow.
        says(sentence).blocks(5, 5).make("column 3 = 3", "least 2 5 = 0").broken(5, 0, 1, 2, 3)
                .make("bar 2 false = 1").broken(5, 0, 1, 3);
    }

    private void breakingAtEachBar() {
        Rows rows = says("those with a BAR are where lines may begin and end").even(24).make("table 0 0");
        for (int gap = 0; gap < 23; gap++) {
            rows.make("least " + gap + " 10 = 0");
        }
        for (int column = 1; column < 23; column++) {
            long rest = 10 * (22 - column);
            rows.make("bar " + column + " true = 0", "lines 10 = " + (column + 1), "begin 1 = 1",
                    "begin " + column + " = " + column, "begin " + (column + 1) + " = 23",
                    "cost = " + (column < 22 ? TOO_WIDE + rest * rest : 0));
        }
        rows.make("lines 10 = 23", "cost = 0", "bar 12 false = 1", "lines 10 = 22", "cost = " + (TOO_WIDE + 100),
                "begin 11 = 11", "begin 12 = 13");
    }

    /** A need over a bar counts for neither of the two lines that part there. */
    private void breakingSettledAlone() {
        says("SETTLED as if it stood alone").even(3)
                .make("bar 1 true", "rod 0 2 20 = 0", "natural 0 2 = 20", "natural 0 1 = 1", "natural 1 2 = 1")
                .broken(20, 0, 2).make("cost = 0")
                .broken(10, 0, 1, 2).make("cost = 81")
                .broken(1, 0, 1, 2).make("cost = 0");
    }

    private void breakingTheLeastSum() {
        String sentence = "the lines with the least sum of COSTS";
        // 3 | 7 | 2 wastes 4; every two of them together are too wide.
        says(sentence).blocks(3, 7, 2).broken(7, 0, 1, 2, 3).make("cost = 16");
        says(sentence).blocks(6, 4, 11).broken(11, 0, 2, 3).make("cost = 1");
        // The 1 helps more in the first line (5 + 1 | 8 against 5 | 1 + 8) ..
        says(sentence).blocks(5, 1, 8, 9).broken(10, 0, 2, 3, 4).make("cost = " + (16 + 4));
        // .. as much in either (the longer first line) ..
        says(sentence).blocks(7, 1, 7, 9).broken(10, 0, 2, 3, 4).make("cost = " + (4 + 9));
        // .. or more in the second.
        says(sentence).blocks(9, 1, 7, 9).broken(10, 0, 1, 3, 4).make("cost = " + (1 + 4));
    }

    /** What an earlier breaking of more columns held must not count for fewer of them. */
    private void breakingAnew() {
        says("BREAKING into lines with an EXTENT").blocks(4, 5, 6, 7).broken(5, 0, 1, 2, 4)
                .make("cost = " + (1 + TOO_WIDE + 64))
                .make("clear = 5").blocks(9, 3).broken(9, 0, 1, 2).make("cost = 0")
                .make("clear = 3").blocks(8).broken(8, 0, 1).make("cost = 0").broken(9, 0, 1).make("cost = 0")
                .make("column 2 = 2").broken(8, 0, 2).make("cost = 0");
    }

    /** Wide pieces by rods: here a longer first line leaves more lines to follow. */
    private void breakingTheFewestThoughTheFirstIsShorter() {
        // A | B + c + d + E or A + B | c | d | E, in thousands: 20, 10, 1, 5 and 10 with an extent of 5
        Rows rows = says("of several those with the fewest lines").even(11).make("table 0 0");
        int[] widths = {5000, 5000, 5000, 5000, 5000, 5000, 1000, 5000, 5000, 5000};
        for (int gap = 0; gap < widths.length; gap++) {
            rows.make("rod " + gap + " " + (gap + 1) + " " + widths[gap] + " = " + gap);
        }
        rows.make("bar 4 true", "bar 6 true", "bar 7 true", "bar 8 true").broken(5000, 0, 4, 10)
                .make("cost = " + (2 * TOO_WIDE + 15000L * 15000L + 21000L * 21000L));
    }

    private void breakingTheFewestLines() {
        // The last line costs nothing either way.
        says("of several those with the fewest lines").blocks(4, 4).broken(8, 0, 2).make("cost = 0");
        // 10 | 0 | 5 and 10 + 0 | 5 and 10 | 0 + 5
        says("of several those with the fewest lines").blocks(10, 0, 5).broken(10, 0, 2, 3).make("cost = 0");
        // Without an extent lines of nothing cost nothing.
        says("of several those with the fewest lines").blocks(0, 0, 0, 0).broken(0, 0, 4).make("cost = 0");
    }

    private void breakingTheLongestFirst() {
        // 4 + 2 | 4 | 6 and 4 | 2 + 4 | 6 cost 4 each.
        says("of these the one whose first line is longest (has most COLUMNS)").blocks(4, 2, 4, 6)
                .broken(6, 0, 2, 3, 4).make("cost = 4");
        // Gaps of no width make a line longer too.
        says("has most COLUMNS").blocks(6, 0, 0, 6).broken(6, 0, 3, 4).make("cost = 0");
    }

    private void breakingTheLongestSecond() {
        says("then the second, and so on").blocks(6, 6, 0, 6).broken(6, 0, 1, 3, 4).make("cost = 0");
        says("then the second, and so on").blocks(6, 6, 6, 0, 0, 6).broken(6, 0, 1, 2, 5, 6).make("cost = 0");
        // The first lines are the same, the second ones 4 + 2 | 4 or 4 | 2 + 4.
        says("then the second, and so on").blocks(6, 4, 2, 4, 6).broken(6, 0, 1, 3, 4, 5).make("cost = 4");
    }

    private void linesWithoutAGap() {
        says("-3 there is no GAP").make("lines 0 = -3", "lines 20000 = -3", "column 5 = 0", "lines 0 = -3",
                "lines 20000 = -3", "begin 0 = -3", "cost = -3", "column 6 = 1", "lines 0 = 1", "clear = 2",
                "lines 0 = -3");
    }

    private void linesAtTheBoundsOfExtent() {
        says("BREAKING into lines with an EXTENT: how many").even(2).broken(0, 0, 1).make("cost = 1")
                .broken(20000, 0, 1).make("cost = 0").broken(1, 0, 1).make("cost = 0");
    }

    private void linesOutsideTheBoundsOfExtent() {
        says("-2, -3 there is no GAP").even(2).each(-2, "lines -1", "lines 20001", "lines low", "lines high")
                .make("cost = -3", "begin 0 = -3");
    }

    private void linesRefusalsInOrder() {
        says("-2, -3 there is no GAP").each(-2, "lines -1", "lines 20001", "lines low", "lines high")
                .make("lines 0 = -3", "column 5 = 0").each(-2, "lines -1", "lines 20001").make("lines 0 = -3");
    }

    private void linesLeaveTheLine() {
        says("It leaves THE LINE at hand").blocks(4, 5, 6)
                .make("line 1 3 10 = 1", "lines 9 = 2").make("over = 1", "force 0 = 0", "force 1 = 1",
                        "width 1 0 = 5", "width 2 0 = 6", "width 0 0 = -1", "settled 2 = 6", "place 1 = 0",
                        "place 3 = 11", "level 1 = 0", "level 3 = 11", "level 0 = -2");
        says("It leaves THE LINE at hand").even(2).make("lines 9 = 1", "over = -3");
    }

    private void linesAsManyAsThereMayBe() {
        int[] leasts = new int[23];
        java.util.Arrays.fill(leasts, 1000);
        Rows rows = says("how many").blocks(leasts).make("lines 1000 = 23", "cost = 0");
        for (int k = 0; k <= 23; k++) {
            rows.make("begin " + k + " = " + k);
        }
        rows.make("begin 24 = -1", "lines 1001 = 23", "cost = 22", "lines 2000 = 12", "begin 11 = 22",
                "begin 12 = 23", "lines 20000 = 2", "begin 1 = 20", "begin 2 = 23", "begin 3 = -1");
    }

    private void beginWithoutLines() {
        says("-3 there were none since anything was changed").each(-3, "begin 0", "begin 1").even(3)
                .each(-3, "begin 0", "begin 1").make("run 5 = 0", "line 0 1 5 = 0", "natural 0 1 = 1")
                .each(-3, "begin 0", "begin 1").make("lines -1 = -2", "begin 0 = -3", "lines 5 = 1", "begin 0 = 0");
    }

    private void beginOfNoLine() {
        says("-3 there were none since anything was changed, -1").blocks(5, 5).make("lines 5 = 2")
                .each(-1, "begin -1", "begin 3", "begin 4", "begin 24", "begin low", "begin high")
                .make("begin 0 = 0", "begin 1 = 1", "begin 2 = 2");
        says("-3 there were none since anything was changed, -1").even(2).make("lines 5 = 1")
                .each(-1, "begin -1", "begin 2", "begin low", "begin high");
    }

    private void beginAtTheirNumber() {
        says("with k their number: the last COLUMN").even(2).make("lines 1 = 1", "begin 1 = 1", "begin 2 = -1");
        says("with k their number: the last COLUMN").even(24).make("lines 23 = 1", "begin 0 = 0", "begin 1 = 23",
                "begin 2 = -1");
    }

    private void beginOfTheLatest() {
        says("of the latest lines()").blocks(5, 5, 5).broken(5, 0, 1, 2, 3).broken(10, 0, 2, 3).broken(15, 0, 3)
                .make("lines 20001 = -2", "lines -1 = -2", "begin 1 = 3", "begin 2 = -1").broken(5, 0, 1, 2, 3);
    }

    private void beginAfterEachChange() {
        String[] changes = {"table 1 0", "table 2 3", "column 3", "clear", "least 0 5", "least 0 0",
            "item 0 0 1 1", "item 1 1 2 2", "remove 1 1", "rod 0 1 0", "drop 0", "bar 1 true", "bar 1 false",
            "bar 0 true"};
        for (String change : changes) {
            Rows rows = says("-3 there were none since anything was changed: " + change).even(3)
                    .make("item 1 1 2 2 = 1", "rod 1 2 7 = 0", "lines 4", "begin 0 = 0");
            due.holds(change + " is not refused", rows.answer(change) >= 0);
            rows.each(-3, "begin 0", "begin 1", "begin -1", "cost");
        }
        says("-3 there were none since anything was changed").blocks(5, 5).make("lines 5 = 2")
                .make("run 3 = 1", "line 0 1 9 = 2", "natural 0 2 = 10", "spring 3 = 0", "over = 0", "place 1 = 5")
                .make("begin 1 = 1", "begin 2 = 2", "cost = 0");
    }

    private void beginRefusalsInOrder() {
        says("-3 there were none since anything was changed, -1")
                .each(-3, "begin -1", "begin 25", "begin low", "begin high").even(2)
                .each(-3, "begin -1", "begin 2", "begin low", "begin high");
    }

    private void costWithoutLines() {
        says("The sum of COSTS of the latest lines(). -3.").make("cost = -3").even(2)
                .make("cost = -3", "run 1 = 0", "cost = -3", "lines 0 = 1", "cost = 1", "least 0 0", "cost = -3");
    }

    private void costSquared() {
        // 1 and 2 below the extent, and as wide as it; the last line costs nothing.
        says("(EXTENT less that) squared").blocks(9, 8, 10, 3).broken(10, 0, 1, 2, 3, 4).make("cost = 5");
        // 1 above the extent by springs alone: the leasts are not more than the extent.
        says("(EXTENT less that) squared").make("table 11 0").columns(0, 1, 2)
                .make("bar 1 true").broken(10, 0, 1, 2).make("cost = 2").broken(11, 0, 1, 2).make("cost = 0")
                .broken(12, 0, 1, 2).make("cost = 1");
    }

    private void costOfTooWideALine() {
        String sentence = "1000000000 more, if the leasts are more than EXTENT";
        // natural 20 by the spring: leasts of 10 are as wide as the extent, 11 are more
        says(sentence).make("table 20 0").columns(0, 1)
                .make("least 0 10", "lines 10 = 1", "cost = 100", "least 0 11", "lines 10 = 1",
                        "cost = " + (TOO_WIDE + 100), "least 0 9", "lines 10 = 1", "cost = 100");
        // The leasts are those that are settled.
        says(sentence).make("table 20 0").columns(0, 1)
                .make("rod 0 1 10", "lines 10 = 1", "cost = 100", "rod 0 1 11", "lines 10 = 1",
                        "cost = " + (TOO_WIDE + 100));
        // A line that is not the last one
        says(sentence).blocks(11, 3).broken(11, 0, 1, 2).make("cost = 0")
                .broken(10, 0, 1, 2).make("cost = " + (TOO_WIDE + 1));
    }

    private void costOfTheLastLine() {
        String sentence = "the last line nothing, if its NATURAL width is not above EXTENT";
        says(sentence).make("table 20 0").columns(0, 1)
                .make("lines 20 = 1", "cost = 0", "lines 21 = 1", "cost = 0", "lines 19 = 1", "cost = 1",
                        "lines 20000 = 1", "cost = 0", "lines 0 = 1", "cost = 400");
        // Only the last: the line before it costs what it wastes.
        says(sentence).blocks(6, 5).broken(10, 0, 1, 2).make("cost = 16").broken(11, 0, 2).make("cost = 0");
        // A bar at the last column makes no other line the last.
        says(sentence).blocks(6, 10, 1).broken(10, 0, 1, 2, 3).make("cost = 16");
    }

    private void costOfTheLatest() {
        says("The sum of COSTS of the latest lines()").blocks(6, 5).make("lines 10 = 2", "cost = 16",
                "lines -1 = -2", "cost = 16", "lines 20001 = -2", "cost = 16", "lines 11 = 1", "cost = 0");
    }

    private void costOfTheWidest() {
        Rows rows = says("The sum of COSTS").even(24);
        for (int rod = 0; rod < 20; rod++) {
            rows.make("rod " + rod + " " + (rod + 1) + " 5000 = " + rod);
        }
        rows.make("least 20 1000", "least 21 1000", "least 22 1000", "lines 0 = 1",
                "cost = " + (103000L * 103000L + TOO_WIDE), "lines 20000 = 1",
                "cost = " + (83000L * 83000L + TOO_WIDE));
        rows.make("bar 4 true", "bar 8 true", "bar 12 true", "bar 16 true").broken(20000, 0, 4, 8, 12, 16, 23)
                .make("cost = " + (TOO_WIDE + 3000L * 3000L));
    }

    private void naturalOfNoColumns() {
        says("-1 no such COLUMNS").each(-1, "natural 0 0", "natural 0 1", "natural -1 0")
                .make("column 0 = 0").each(-1, "natural 0 1", "natural -1 0", "natural 1 2")
                .make("column 1 = 1", "natural 0 1 = 10")
                .each(-1, "natural 0 2", "natural -1 1", "natural 2 1", "natural low 1", "natural 0 high",
                        "natural high 1", "natural 0 low", "natural low high");
        says("-1 no such COLUMNS").even(24).make("natural 0 23 = 23", "natural 22 23 = 1", "natural 0 1 = 1",
                "natural 0 24 = -1", "natural 23 24 = -1", "natural 24 25 = -1");
    }

    private void naturalFirstNotBelowLast() {
        says("-2 first is not below last").make("column 0 = 0", "natural 0 0 = -2").columns(1, 2)
                .each(-2, "natural 0 0", "natural 2 2", "natural 1 0", "natural 2 0", "natural 2 1");
    }

    private void naturalRefusalsInOrder() {
        says("-1 no such COLUMNS, -2 first is not below last").even(3)
                .each(-1, "natural 3 3", "natural 3 2", "natural 0 -1", "natural -1 -1", "natural high low");
    }

    private void naturalRoundedDown() {
        String sentence = "SPRING / 65536, rounded down";
        says(sentence).make("table 0 1").columns(0, 65535).make("natural 0 1 = 15", "least 0 16", "natural 0 1 = 16");
        says(sentence).make("table 0 1").columns(0, 65536).make("natural 0 1 = 16");
        says(sentence).make("table 0 1").columns(0, 65537).make("natural 0 1 = 16");
        // Each gap by itself: halves do not add up to a whole.
        says(sentence).make("table 1 1").columns(0, 3, 6).make("natural 0 1 = 2", "natural 1 2 = 2", "natural 0 2 = 4");
    }

    private void naturalOfLeastOrSpring() {
        says("the sum of max(l, SPRING / 65536, rounded down)").columns(0, 1)
                .make("natural 0 1 = 10", "least 0 9", "natural 0 1 = 10", "least 0 10", "natural 0 1 = 10",
                        "least 0 11", "natural 0 1 = 11", "least 0 0", "table 0 0", "natural 0 1 = 0");
    }

    private void naturalOfTheLargestNumbers() {
        says("The NATURAL width of the GAPS first .. last - 1").make("table 100 100").columns(0, 100000)
                .make("natural 0 1 = 1752", "least 0 1000", "natural 0 1 = 1752", "rod 0 1 5000",
                        "natural 0 1 = 5000");
        Rows rows = says("The NATURAL width of the GAPS first .. last - 1").make("table 100 100 = 1");
        for (int column = 0; column < 24; column++) {
            rows.make("column " + column * 4096 + " = " + column);
        }
        rows.make("natural 0 23 = " + 23 * 1300, "lines 20000 = 1", "cost = " + 9900L * 9900L);
    }

    private void naturalChangesNothing() {
        says("The NATURAL width").blocks(4, 5, 6).make("line 1 2 4 = 1", "lines 9 = 2", "natural 0 3 = 15",
                "natural 2 3 = 6", "over = 1", "settled 1 = 5", "settled 2 = -1", "place 2 = 5", "begin 1 = 2",
                "cost = 0", "natural 0 4 = -1", "natural 1 1 = -2", "over = 1", "cost = 0");
    }
}
