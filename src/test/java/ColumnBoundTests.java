/** Promises 1 to 11: for each sentence that names a boundary case a test of its own. */
public final class ColumnBoundTests {
    private static final long UNIT = 65536;

    private final Due due = new Due();

    public static void main(String[] args) {
        ColumnBoundTests tests = new ColumnBoundTests();
        tests.newObject();
        tests.table();
        tests.column();
        tests.clear();
        tests.spring();
        tests.least();
        tests.item();
        tests.remove();
        tests.rod();
        tests.drop();
        tests.bar();
        tests.due.end();
    }

    private Rows says(String sentence) {
        return new Rows(due, sentence);
    }

    private void newObject() {
        newObjectHasNoColumns();
        newObjectHasItsTable();
        newObjectsAreApart();
        objectIsUsedForItsLastCall();
    }

    private void table() {
        tableAtItsBounds();
        tableOutsideItsBounds();
        tableIsRefusedWhole();
        tableOfNothing();
    }

    private void column() {
        columnAtTheBoundsOfTime();
        columnOutsideTheBoundsOfTime();
        columnNotAboveTheOneBefore();
        columnsAreFull();
        columnRefusalsInOrder();
    }

    private void clear() {
        clearTellsHowManyThereWere();
        clearLeavesNoColumns();
        clearLeavesNoItems();
        clearLeavesNoRods();
        clearLeavesNoBars();
        clearLeavesTheTableAndNoLeasts();
    }

    private void spring() {
        springAtTheBoundsOfDuration();
        springOutsideTheBoundsOfDuration();
        springAroundPowersOfTwo();
        springOfTheDouble();
        springBeyondAnInt();
    }

    private void least() {
        leastIsNothingAtFirst();
        leastAtTheBoundsOfWidth();
        leastOutsideTheBoundsOfWidth();
        leastOfNoGap();
        leastOfTheOutermostGaps();
        leastRefusalsInOrder();
    }

    private void item() {
        itemAtTheOutermostStavesAndColumns();
        itemOfNoStaff();
        itemAtNoColumn();
        itemAtTheBoundsOfItsSides();
        itemOutsideTheBoundsOfItsSides();
        itemInPlaceOfAnother();
        itemRefusalsInOrder();
        itemsEverywhere();
    }

    private void remove() {
        removeWithoutOne();
        removeOfNoStaffOrColumn();
        removeOfTheOutermost();
        removeOnlyOnce();
    }

    private void rod() {
        rodNumbersFromNothing();
        rodAtNoColumns();
        rodFromNotBelowTo();
        rodAtTheBoundsOfWidth();
        rodOutsideTheBoundsOfWidth();
        rodsThereWere();
        rodsDroppedMakeNoRoom();
        rodNumbersDoNotComeAgain();
        rodRefusalsInOrder();
    }

    private void drop() {
        dropTellsHowManyThereAre();
        dropOfNoRod();
        dropOnlyOnce();
        dropWithoutRods();
    }

    private void bar() {
        barTellsWhetherItHad();
        barAtNoColumn();
        barAtTheOutermostColumns();
    }

    private void newObjectHasNoColumns() {
        String[] noSuch = {"bar 0 true", "bar 0 false", "least 0 0", "item 0 0 0 0", "remove 0 0",
            "rod 0 1 0", "rod 0 0 0", "drop 0", "line 0 1 0", "line 0 0 0", "natural 0 1",
            "natural 0 0"};
        String[] notInThisState = {"run 0", "run 20000", "lines 0", "lines 20000", "over", "force 0",
            "force 1", "width 0 0", "width 0 1", "settled 0", "place 0", "level 0", "begin 0", "cost"};
        says("No COLUMNS").each(-1, noSuch).each(-3, notInThisState)
                .make("clear = 0", "column 7 = 0", "clear = 1");
    }

    private void newObjectHasItsTable() {
        says("BASE 10, MORE 6").make(
                "spring 1 = " + 10 * UNIT,
                "spring 2 = " + 16 * UNIT,
                "spring 3 = " + 19 * UNIT,
                "spring 65536 = " + (10 + 6 * 16) * UNIT);
    }

    private void newObjectsAreApart() {
        Rows one = says("A new object").columns(0, 1, 2)
                .make("table 0 0 = 1", "least 0 9", "item 0 0 1 1", "rod 0 1 50", "bar 1 true", "run 9");
        says("A new object").make("clear = 0", "spring 1 = " + 10 * UNIT, "over = -3", "drop 0 = -1")
                .columns(0, 1)
                .make("least 0 0 = 0", "remove 0 0 = -1", "bar 1 false = 0", "rod 0 1 0 = 0");
        one.make("over = 41", "drop 0 = 0", "clear = 3");
    }

    /** Each of the dearest calls again and again up to the last one that is promised. */
    private void objectIsUsedForItsLastCall() {
        String sentence = "An object is used for at most 512 calls after it has been made";
        Rows items = says(sentence).even(2);
        while (items.calls() < 507) {
            items.make("item 0 0 1 2 = 1", "remove 0 0 = 1");
        }
        items.make("item 0 0 1 2 = 1", "item 0 1 3 4 = 1", "natural 0 1 = 5", "run 4 = 1", "over = 1");
        due.is("calls made", items.calls(), 512);

        Rows columns = says(sentence).make("table 1 0");
        while (columns.calls() < 506) {
            columns.make("clear").columns(5, 6).make("natural 0 1 = 1", "lines 0 = 1");
        }
        columns.make("clear = 2").columns(5, 6).make("least 0 3 = 0", "natural 0 1 = 3", "run 2 = 1");
        due.is("calls made", columns.calls(), 512);

        Rows lines = says(sentence).even(24);
        while (lines.calls() < 509) {
            lines.make("run 23 = 0", "lines 23 = 1");
        }
        lines.make("force 0 = 1", "force 1 = 65536", "cost = 0");
        due.is("calls made", lines.calls(), 512);
    }

    private void tableAtItsBounds() {
        says("THE TABLE has BASE and MORE (0 to 100 each)").make(
                "table 0 100 = 1", "spring 1 = 0", "spring 2 = " + 100 * UNIT,
                "table 100 0 = 1", "spring 1 = " + 100 * UNIT, "spring 2 = " + 100 * UNIT,
                "table 100 100 = 1", "spring 1 = " + 100 * UNIT, "spring 2 = " + 200 * UNIT,
                "table 1 99 = 1", "spring 1 = " + UNIT, "spring 2 = " + 100 * UNIT,
                "table 99 1 = 1", "spring 1 = " + 99 * UNIT, "spring 2 = " + 100 * UNIT,
                "table 0 0 = 1", "spring 1 = 0", "spring 2 = 0");
    }

    private void tableOutsideItsBounds() {
        says("BASE and MORE: 1. -2.").each(-2,
                "table -1 0", "table 101 0", "table low 0", "table high 0",
                "table 0 -1", "table 0 101", "table 0 low", "table 0 high",
                "table -1 -1", "table 101 101", "table low high", "table high low");
    }

    private void tableIsRefusedWhole() {
        says("REFUSALS are answers below 0, and change nothing").make(
                "table 50 101 = -2", "spring 1 = " + 10 * UNIT, "spring 2 = " + 16 * UNIT,
                "table 101 50 = -2", "spring 1 = " + 10 * UNIT, "spring 2 = " + 16 * UNIT);
    }

    private void tableOfNothing() {
        says("THE TABLE has BASE and MORE (0 to 100 each)").make("table 0 0 = 1", "spring 100000 = 0")
                .columns(0, 100000)
                .make("natural 0 1 = 0", "run 0 = 0", "run 1 = 2");
    }

    private void columnAtTheBoundsOfTime() {
        says("each at a TIME (0 to 100000)").make("column 0 = 0", "column 100000 = 1");
        says("each at a TIME (0 to 100000)").make("column 1 = 0", "column 99999 = 1");
        says("each at a TIME (0 to 100000)").make("column 100000 = 0");
    }

    private void columnOutsideTheBoundsOfTime() {
        says("-2 TIME is not 0 .. 100000")
                .each(-2, "column -1", "column 100001", "column low", "column high")
                .make("clear = 0", "column 0 = 0")
                .each(-2, "column -1", "column 100001", "column low", "column high")
                .make("clear = 1");
    }

    private void columnNotAboveTheOneBefore() {
        says("-3 it is not above the one before").make(
                "column 5 = 0", "column 5 = -3", "column 4 = -3", "column 0 = -3",
                "column 6 = 1", "column 6 = -3", "column 5 = -3",
                "column 100000 = 2", "column 100000 = -3", "column 99999 = -3", "column 7 = -3",
                "clear = 3", "column 5 = 0");
        says("-3 it is not above the one before").make("column 0 = 0", "column 0 = -3", "column 1 = 1");
    }

    private void columnsAreFull() {
        Rows rows = says("COLUMNS are numbered 0, 1, .. (24 at most)").even(23)
                .make("column 23 = 23", "column 24 = -4", "column 100000 = -4", "column 25 = -4");
        rows.make("natural 0 23 = 23", "natural 0 24 = -1", "clear = 24");
        rows.even(24).make("column 24 = -4", "clear = 24", "clear = 0");
    }

    private void columnRefusalsInOrder() {
        says("the first that fits").make("column 9 = 0", "column -1 = -2");
        Rows full = says("the first that fits");
        for (int column = 0; column < 24; column++) {
            full.make("column " + (99977 + column) + " = " + column);
        }
        full.make("column 100001 = -2", "column -1 = -2", "column low = -2", "column high = -2",
                "column 100000 = -3", "column 0 = -3");
        says("the first that fits").even(24)
                .make("column 23 = -3", "column 0 = -3", "column 24 = -4");
    }

    private void clearTellsHowManyThereWere() {
        says("how many COLUMNS there were").make("clear = 0", "clear = 0", "column 3 = 0", "clear = 1",
                "clear = 0").even(24).make("clear = 24", "clear = 0");
    }

    private void clearLeavesNoColumns() {
        says("No COLUMNS, ITEMS, RODS, BARS").even(3).make("run 9 = 0", "lines 9 = 1", "clear = 3")
                .each(-1, "bar 0 true", "least 0 0", "item 0 0 0 0", "rod 0 1 0", "line 0 1 9",
                        "natural 0 1")
                .each(-3, "run 9", "lines 9", "over", "force 0", "width 0 0", "settled 0", "place 0",
                        "level 0", "begin 0", "cost")
                .make("column 0 = 0", "run 9 = -3");
    }

    private void clearLeavesNoItems() {
        Rows rows = says("No COLUMNS, ITEMS, RODS, BARS").even(24);
        for (int staff = 0; staff < 4; staff++) {
            for (int column = 0; column < 24; column++) {
                rows.make("item " + staff + " " + column + " 3 4 = 1");
            }
        }
        rows.make("natural 0 23 = 161", "clear = 24").even(24).make("natural 0 23 = 23");
        for (int staff = 0; staff < 4; staff++) {
            for (int column = 0; column < 24; column++) {
                rows.make("remove " + staff + " " + column + " = -1");
            }
        }
        rows.each(1, "item 0 0 0 0", "item 3 23 0 0");
    }

    private void clearLeavesNoRods() {
        says("No COLUMNS, ITEMS, RODS, BARS").even(2)
                .make("rod 0 1 70 = 0", "rod 0 1 80 = 1", "natural 0 1 = 80", "clear = 2").even(2)
                .make("natural 0 1 = 1", "drop 0 = -1", "drop 1 = -1");
    }

    private void clearLeavesNoBars() {
        says("No COLUMNS, ITEMS, RODS, BARS").blocks(5, 5, 5)
                .make("lines 5 = 3", "clear = 4").even(4)
                .make("table 0 0", "least 0 5", "least 1 5", "least 2 5", "lines 5 = 1")
                .each(0, "bar 0 false", "bar 1 false", "bar 2 false", "bar 3 false");
    }

    private void clearLeavesTheTableAndNoLeasts() {
        says("0 at first").even(3).make("least 0 1000", "least 1 7", "clear = 3", "spring 9 = " + UNIT)
                .columns(4, 5, 6).make("least 0 0 = 0", "least 1 0 = 0");
    }

    private void springAtTheBoundsOfDuration() {
        says("The SPRING of a DURATION").make("spring 1 = " + 10 * UNIT,
                "spring 100000 = " + ((10 + 6 * 16) * UNIT + 6 * (100000 - 65536)));
    }

    private void springOutsideTheBoundsOfDuration() {
        says("-2 it is not 1 .. 100000")
                .each(-2, "spring 0", "spring -1", "spring 100001", "spring low", "spring high",
                        "spring -100000");
    }

    private void springAroundPowersOfTwo() {
        String sentence = "k being the greatest with 2^k not above d";
        Rows rows = says(sentence).make("table 3 5 = 1");
        for (int k = 1; k <= 16; k++) {
            int power = 1 << k;
            rows.make("spring " + power + " = " + UNIT * (3 + 5 * k));
            long below = UNIT * (3 + 5 * (k - 1)) + 5 * (power / 2 - 1) * UNIT / (power / 2);
            rows.make("spring " + (power - 1) + " = " + below);
            rows.make("spring " + (power + 1) + " = " + (UNIT * (3 + 5 * k) + 5 * UNIT / power));
        }
    }

    private void springOfTheDouble() {
        for (int from = 1; from <= 50000; from += 200) {
            Rows rows = says("So doubling a DURATION adds MORE").make("table 7 100 = 1");
            for (int duration = from; duration < from + 200; duration++) {
                long once = rows.answer("spring " + duration);
                long twice = rows.answer("spring " + 2 * duration);
                due.is("spring of " + 2 * duration + " above that of the half", twice - once, 100 * UNIT);
            }
        }
    }

    private void springBeyondAnInt() {
        says("this is whole").make("table 100 100 = 1",
                "spring 100000 = " + (1700 * UNIT + 100 * (100000 - 65536)),
                "spring 99999 = " + (1700 * UNIT + 100 * (99999 - 65536)));
    }

    private void leastIsNothingAtFirst() {
        Rows rows = says("0 at first").even(24);
        for (int gap = 0; gap < 23; gap++) {
            rows.make("least " + gap + " 1000 = 0");
        }
        rows.make("natural 0 23 = 23000");
    }

    private void leastAtTheBoundsOfWidth() {
        says("0 to 1000 as told").even(2).make("least 0 1000 = 0", "run 1000 = 0", "run 999 = 1",
                "least 0 0 = 1000", "run 0 = 0", "least 0 1 = 0", "run 0 = 1", "least 0 999 = 1",
                "least 0 999 = 999", "run 999 = 0", "run 998 = 1");
    }

    private void leastOutsideTheBoundsOfWidth() {
        says("The LEAST width of a GAP: what it was. -1, -2.").even(2).make("least 0 12 = 0")
                .each(-2, "least 0 -1", "least 0 1001", "least 0 low", "least 0 high")
                .make("least 0 12 = 12");
    }

    private void leastOfNoGap() {
        String sentence = "-1 there is no such COLUMN, GAP, STAFF, ITEM, ROD, line";
        says(sentence).each(-1, "least 0 5", "least -1 5")
                .make("column 0 = 0").each(-1, "least 0 5", "least -1 5", "least 1 5")
                .make("column 1 = 1", "least 0 5 = 0")
                .each(-1, "least 1 5", "least -1 5", "least low 5", "least high 5")
                .make("column 2 = 2", "least 1 6 = 0", "least 2 5 = -1");
        says(sentence).even(24).make("least 22 5 = 0").each(-1, "least 23 5", "least 24 5", "least 25 5");
    }

    private void leastOfTheOutermostGaps() {
        says("GAP i lies between COLUMNS i and i + 1").even(24)
                .make("least 0 100 = 0", "least 22 200 = 0", "natural 0 1 = 100", "natural 1 2 = 1",
                        "natural 21 22 = 1", "natural 22 23 = 200", "least 0 0 = 100", "least 22 0 = 200");
    }

    private void leastRefusalsInOrder() {
        says("the first that fits").make("least 0 -1 = -1").even(2)
                .each(-1, "least 1 -1", "least 1 1001", "least -1 high", "least high low");
    }

    private void itemAtTheOutermostStavesAndColumns() {
        says("for each STAFF 0 .. 3").even(24)
                .each(1, "item 0 0 0 11", "item 0 23 12 0", "item 3 0 0 21", "item 3 23 22 0")
                .each(0, "item 0 0 0 11", "item 0 23 12 0", "item 3 0 0 21", "item 3 23 22 0")
                .make("natural 0 23 = 46", "remove 3 23 = 1", "natural 0 23 = 23", "run 0 = 1", "over = 23");
    }

    private void itemOfNoStaff() {
        says("-1 (STAFF, COLUMN)").even(2)
                .each(-1, "item -1 0 1 1", "item 4 0 1 1", "item low 0 1 1", "item high 0 1 1",
                        "item 5 1 1 1")
                .each(1, "item 0 0 1 1", "item 1 0 1 1", "item 2 0 1 1", "item 3 0 1 1");
    }

    private void itemAtNoColumn() {
        says("-1 (STAFF, COLUMN)").make("item 0 0 1 1 = -1", "item 3 0 1 1 = -1")
                .make("column 0 = 0", "item 0 1 1 1 = -1", "item 0 0 1 1 = 1")
                .make("column 1 = 1", "item 0 1 1 1 = 1")
                .each(-1, "item 0 2 1 1", "item 0 -1 1 1", "item 0 low 1 1", "item 0 high 1 1",
                        "item 1 -1 1 1", "item 3 2 1 1");
        // In rows of 24 for each staff, column 24 of one would be column 0 of the next.
        says("-1 (STAFF, COLUMN)").even(24)
                .each(-1, "item 0 24 1 1", "item 1 -1 1 1", "item 3 24 1 1", "item 0 48 1 1")
                .each(1, "item 1 0 1 1", "item 0 23 1 1", "item 3 23 1 1", "item 2 0 1 1");
    }

    private void itemAtTheBoundsOfItsSides() {
        says("-2 LEFT, RIGHT are not 0 .. 500").even(2)
                .make("item 0 0 500 500 = 1", "item 0 1 500 500 = 1", "natural 0 1 = 1000",
                        "item 0 0 0 0 = 0", "natural 0 1 = 500", "item 0 1 0 0 = 0", "natural 0 1 = 1",
                        "run 0 = 0", "item 0 0 0 1 = 0", "run 0 = 1", "over = 1",
                        "item 0 1 499 0 = 0", "natural 0 1 = 500");
    }

    private void itemOutsideTheBoundsOfItsSides() {
        says("-2 LEFT, RIGHT are not 0 .. 500").even(2)
                .each(-2, "item 0 0 -1 1", "item 0 0 501 1", "item 0 0 low 1", "item 0 0 high 1",
                        "item 0 0 1 -1", "item 0 0 1 501", "item 0 0 1 low", "item 0 0 1 high",
                        "item 0 0 -1 501")
                .make("item 0 0 1 1 = 1", "item 0 0 501 2 = -2", "item 0 0 2 501 = -2",
                        "item 0 1 1 1 = 1", "natural 0 1 = 2");
    }

    private void itemInPlaceOfAnother() {
        says("(in place of another one): 1; 0 there was one").even(3)
                .make("item 2 0 0 90 = 1", "item 2 1 90 80 = 1", "item 2 2 80 0 = 1", "natural 0 2 = 340",
                        "item 2 1 3 4 = 0", "natural 0 1 = 93", "natural 1 2 = 84",
                        "item 2 1 3 4 = 0", "remove 2 1 = 1", "item 2 1 3 4 = 1", "item 1 1 3 4 = 1");
    }

    private void itemRefusalsInOrder() {
        says("the first that fits").make("item 0 0 -1 501 = -1").even(2)
                .each(-1, "item 4 0 -1 0", "item -1 0 0 501", "item 0 2 -1 0", "item 0 -1 0 501",
                        "item 4 2 501 501");
    }

    private void itemsEverywhere() {
        Rows rows = says("for each two of its ITEMS that stand next to one another").even(24);
        for (int staff = 0; staff < 4; staff++) {
            for (int column = 0; column < 24; column++) {
                rows.make("item " + staff + " " + column + " " + column + " " + (100 * staff) + " = 1");
            }
        }
        for (int gap = 0; gap < 23; gap++) {
            rows.make("natural " + gap + " " + (gap + 1) + " = " + (300 + gap + 1));
        }
        rows.make("run 20000 = 0").settled(0, 301, 302).settled(22, 323);
    }

    private void removeWithoutOne() {
        says("-1 (also without one)").make("remove 0 0 = -1").even(2)
                .each(-1, "remove 0 0", "remove 3 1")
                .make("item 1 1 0 0 = 1")
                .each(-1, "remove 0 1", "remove 2 1", "remove 1 0")
                .make("remove 1 1 = 1");
    }

    private void removeOfNoStaffOrColumn() {
        Rows rows = says("-1 (also without one)").even(24);
        for (int staff = 0; staff < 4; staff++) {
            rows.make("item " + staff + " 0 0 0 = 1", "item " + staff + " 23 0 0 = 1");
        }
        rows.each(-1, "remove -1 0", "remove 4 0", "remove low 0", "remove high 0",
                "remove 0 -1", "remove 0 24", "remove 0 low", "remove 0 high",
                "remove 1 -1", "remove 2 24", "remove 3 24", "remove -1 24", "remove 4 -24");
        for (int staff = 0; staff < 4; staff++) {
            rows.make("item " + staff + " 0 0 0 = 0", "item " + staff + " 23 0 0 = 0");
        }
    }

    private void removeOfTheOutermost() {
        says("It is no more: 1").even(24)
                .make("item 0 0 0 60 = 1", "item 0 23 40 0 = 1", "run 0 = 1", "remove 0 0 = 1",
                        "run 0 = 0", "item 0 0 0 60 = 1", "run 0 = 1", "remove 0 23 = 1", "run 0 = 0",
                        "remove 0 23 = -1", "remove 0 0 = 1", "remove 0 0 = -1");
    }

    private void removeOnlyOnce() {
        says("It is no more: 1").even(2).make("item 3 1 5 5 = 1", "item 3 1 6 6 = 0", "remove 3 1 = 1",
                "remove 3 1 = -1", "item 3 1 5 5 = 1", "remove 3 1 = 1");
    }

    private void rodNumbersFromNothing() {
        says("its number (from 0 on; a number does not come again)").even(2)
                .make("rod 0 1 0 = 0", "rod 0 1 0 = 1", "rod 0 1 0 = 2");
    }

    private void rodAtNoColumns() {
        says("-1 no such COLUMNS").each(-1, "rod 0 1 5", "rod 0 0 5")
                .make("column 0 = 0").each(-1, "rod 0 1 5", "rod -1 0 5")
                .make("column 1 = 1")
                .each(-1, "rod 0 2 5", "rod 2 1 5", "rod -1 1 5", "rod 0 -1 5", "rod low 1 5",
                        "rod 0 high 5", "rod high 1 5", "rod 0 low 5", "rod low high 5", "rod 2 3 5")
                .make("rod 0 1 5 = 0");
        says("-1 no such COLUMNS").even(24).make("rod 0 24 5 = -1", "rod 24 23 5 = -1",
                "rod 0 23 5 = 0", "rod 22 23 5 = 1");
    }

    private void rodFromNotBelowTo() {
        says("-2 from is not below to").make("column 0 = 0", "rod 0 0 5 = -2").columns(1, 2)
                .each(-2, "rod 0 0 5", "rod 2 2 5", "rod 1 0 5", "rod 2 0 5", "rod 2 1 5")
                .make("rod 0 1 5 = 0", "rod 1 2 5 = 1", "rod 0 2 5 = 2");
    }

    private void rodAtTheBoundsOfWidth() {
        says("WIDTH is not 0 .. 5000").even(2)
                .make("rod 0 1 0 = 0", "run 0 = 0", "rod 0 1 1 = 1", "run 0 = 1", "rod 0 1 4999 = 2",
                        "run 4999 = 0", "run 4998 = 1", "rod 0 1 5000 = 3", "run 5000 = 0", "run 4999 = 1",
                        "over = 1");
    }

    private void rodOutsideTheBoundsOfWidth() {
        says("WIDTH is not 0 .. 5000").even(2)
                .each(-2, "rod 0 1 -1", "rod 0 1 5001", "rod 0 1 low", "rod 0 1 high")
                .make("drop 0 = -1", "rod 0 1 9 = 0");
    }

    private void rodsThereWere() {
        Rows rows = says("-4 there were 20").even(3);
        for (int rod = 0; rod < 20; rod++) {
            rows.make("rod 0 2 " + rod + " = " + rod);
        }
        rows.each(-4, "rod 0 1 900", "rod 0 2 0", "rod 1 2 5000").make("natural 0 2 = 20", "drop 19 = 19");
    }

    private void rodsDroppedMakeNoRoom() {
        Rows rows = says("-4 there were 20").even(2);
        for (int rod = 0; rod < 20; rod++) {
            rows.make("rod 0 1 " + rod + " = " + rod, "drop " + rod + " = 0");
        }
        rows.make("rod 0 1 1 = -4", "drop 19 = -1", "natural 0 1 = 1");
    }

    private void rodNumbersDoNotComeAgain() {
        says("a number does not come again").even(2)
                .make("rod 0 1 5 = 0", "drop 0 = 0", "rod 0 1 5 = 1", "rod 0 1 6 = 2", "drop 1 = 1",
                        "rod 0 1 7 = 3", "clear = 2").even(2)
                .make("rod 0 1 5 = 4", "drop 4 = 0");
    }

    private void rodRefusalsInOrder() {
        Rows rows = says("the first that fits").make("rod 0 0 -1 = -1").even(2)
                .each(-1, "rod 2 2 0", "rod 1 2 -1", "rod -1 -1 5001", "rod 2 0 5")
                .each(-2, "rod 1 0 5001");
        for (int rod = 0; rod < 20; rod++) {
            rows.make("rod 0 1 0 = " + rod);
        }
        rows.each(-1, "rod 0 2 0", "rod -1 0 -1").each(-2, "rod 0 0 0", "rod 0 1 -1", "rod 0 1 5001")
                .each(-4, "rod 0 1 0", "rod 0 1 5000");
    }

    private void dropTellsHowManyThereAre() {
        Rows rows = says("A ROD is no more: how many there are").even(2);
        for (int rod = 0; rod < 20; rod++) {
            rows.make("rod 0 1 " + (100 + rod));
        }
        for (int rod = 19; rod > 0; rod--) {
            rows.make("natural 0 1 = " + (100 + rod), "drop " + rod + " = " + rod);
        }
        rows.make("natural 0 1 = 100", "drop 0 = 0", "natural 0 1 = 1");
    }

    private void dropOfNoRod() {
        Rows rows = says("-1 there is no such COLUMN, GAP, STAFF, ITEM, ROD, line").even(2)
                .make("rod 0 1 5 = 0", "rod 0 1 5 = 1")
                .each(-1, "drop 2", "drop -1", "drop low", "drop high", "drop 19", "drop 20", "drop 21");
        for (int rod = 2; rod < 20; rod++) {
            rows.make("rod 0 1 5 = " + rod);
        }
        rows.each(-1, "drop 20", "drop -1", "drop low", "drop high").make("drop 19 = 19", "drop 0 = 18");
    }

    private void dropOnlyOnce() {
        says("A ROD is no more").even(2).make("rod 0 1 5 = 0", "rod 0 1 5 = 1", "drop 0 = 1",
                "drop 0 = -1", "drop 1 = 0", "drop 1 = -1");
    }

    private void dropWithoutRods() {
        says("A ROD is no more: how many there are. -1.").each(-1, "drop 0", "drop -1", "drop high")
                .even(2).make("drop 0 = -1");
    }

    private void barTellsWhetherItHad() {
        says("whether it had: 1 or 0").even(2).make("bar 1 false = 0", "bar 1 false = 0", "bar 1 true = 0",
                "bar 1 true = 1", "bar 1 false = 1", "bar 1 false = 0", "bar 0 false = 0");
    }

    private void barAtNoColumn() {
        says("-1 there is no such COLUMN, GAP, STAFF, ITEM, ROD, line")
                .each(-1, "bar 0 true", "bar 0 false", "bar -1 true")
                .make("column 0 = 0", "bar 0 true = 0", "bar 1 true = -1", "bar 1 false = -1",
                        "column 1 = 1", "bar 1 false = 0")
                .each(-1, "bar 2 true", "bar -1 true", "bar low true", "bar high true", "bar low false",
                        "bar high false")
                .make("bar 0 false = 1");
    }

    private void barAtTheOutermostColumns() {
        says("Whether a COLUMN has a BAR from now on").even(24)
                .make("bar 0 true = 0", "bar 23 true = 0", "bar 24 true = -1", "bar 0 true = 1",
                        "bar 23 true = 1", "bar 22 true = 0", "bar 22 false = 1");
    }
}
