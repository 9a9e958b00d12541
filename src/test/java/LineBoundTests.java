/** Promises 12 to 19 and the terms of one line: for each boundary case a test of its own. */
public final class LineBoundTests {
    private static final long UNIT = 65536;
    private static final String[] TOLD = {"over", "force 0", "force 1", "width 0 0", "width 0 1",
        "settled 0", "place 0", "place 1", "level 0", "level 1"};

    private final Due due = new Due();

    public static void main(String[] args) {
        LineBoundTests tests = new LineBoundTests();
        tests.needs();
        tests.settling();
        tests.run();
        tests.line();
        tests.over();
        tests.force();
        tests.width();
        tests.settled();
        tests.place();
        tests.level();
        tests.due.end();
    }

    private Rows says(String sentence) {
        return new Rows(due, sentence);
    }

    private void needs() {
        needOfTwoItemsOnly();
        needOfItemsNextToOneAnother();
        needOfItsOwnStaff();
        needOfNothing();
        needsByStavesThenRods();
        needsWithinTheLine();
        needsAsManyAsThereMayBe();
    }

    private void settling() {
        settlingWhatIsEnough();
        settlingWhatIsOneBelow();
        settlingRoundedUp();
        settlingIfThatIsMore();
        settlingWithoutASpring();
        settlingWithOneSpring();
        settlingAsTold();
    }

    private void run() {
        runWithoutAGap();
        runAtTheBoundsOfExtent();
        runOutsideTheBoundsOfExtent();
        runRefusalsInOrder();
        runOverfullByOne();
        runLooseByOne();
        runIsNoMoreAfterEachChange();
        runIsLeftByRefusals();
        runTakesThePlaceOfAnother();
    }

    private void line() {
        lineOfNoColumns();
        lineFirstNotBelowLast();
        lineOutsideTheBoundsOfExtent();
        lineRefusalsInOrder();
        lineOfTheOutermostColumns();
        lineOverfullAndLoose();
    }

    private void over() {
        overWithoutALine();
        overByTheSumOfTheLeasts();
        overOfTheWidest();
    }

    private void force() {
        forceOfAnotherPart();
        forceWithoutALine();
        forceOfNothing();
        forceOfOneMoreThanTheLeasts();
        forceWhereALeastIsJustReached();
        forceWithoutSomeSprings();
        forceOfTheLargestNumbers();
    }

    private void width() {
        widthWithoutALine();
        widthOfNoGapOfIt();
        widthOfAnotherPart();
        widthRefusalsInOrder();
        widthOfNothing();
        widthOfTheLargestNumbers();
    }

    private void settled() {
        settledWithoutALine();
        settledOfNoGapOfIt();
        settledAboveWhatMayBeTold();
    }

    private void place() {
        placeWithoutALine();
        placeOfNoColumnOfIt();
        placeRoundedDown();
        placeOfAnOverfullLine();
        placeOfALooseLine();
    }

    private void level() {
        levelWithoutALine();
        levelNotBetween();
        levelAtAColumn();
        levelRoundedDownTogether();
        levelOfTheLargestNumbers();
    }

    private void needOfTwoItemsOnly() {
        says("each two of its ITEMS that stand next to one another").even(3)
                .make("item 0 1 500 500 = 1", "run 0 = 0").settled(0, 0, 0)
                .make("item 0 0 500 2 = 1", "run 0 = 1").settled(0, 502, 0)
                .make("item 0 2 3 500 = 1", "run 0 = 1").settled(0, 502, 503);
    }

    private void needOfItemsNextToOneAnother() {
        says("without an ITEM of that STAFF between").even(4)
                .make("item 1 0 0 90 = 1", "item 1 3 90 0 = 1", "run 0 = 1").settled(0, 60, 60, 60)
                .make("item 1 1 0 0 = 1", "run 0 = 1").settled(0, 90, 45, 45)
                .make("item 1 2 0 0 = 1", "run 0 = 1").settled(0, 90, 0, 90);
    }

    private void needOfItsOwnStaff() {
        says("without an ITEM of that STAFF between").even(3)
                .make("item 0 0 0 50 = 1", "item 1 1 50 50 = 1", "item 2 2 50 0 = 1", "run 0 = 0")
                .make("item 0 2 10 0 = 1", "run 0 = 1").settled(0, 30, 30);
        // The last of one staff and the first of the next stand next to one another in no staff.
        says("without an ITEM of that STAFF between").even(24)
                .make("item 0 23 500 500 = 1", "item 1 0 500 500 = 1", "item 3 0 500 500 = 1", "run 0 = 0");
    }

    private void needOfNothing() {
        says("have at least the RIGHT of the one and the LEFT of the other").even(2)
                .make("item 0 0 500 0 = 1", "item 0 1 0 500 = 1", "run 0 = 0", "rod 0 1 0 = 0", "run 0 = 0",
                        "over = 0").settled(0, 0);
    }

    /** A need of the first gap met before one of both leaves the second less to give. */
    private void needsByStavesThenRods() {
        String order = "ROWS OF NEEDS, in this order";
        for (int staff = 0; staff < 3; staff++) {
            String both = "item " + (staff + 1) + " ";
            String one = "item " + staff + " ";
            says(order).even(3).make(both + "0 0 6", both + "2 6 0", one + "0 0 5", one + "1 5 0", "run 0 = 1")
                    .settled(0, 10, 2);
            says(order).even(3).make(one + "0 0 6", one + "2 6 0", both + "0 0 5", both + "1 5 0", "run 0 = 1")
                    .settled(0, 10, 6);
        }
        says("then RODS, by numbers").even(3)
                .make("rod 0 1 10 = 0", "item 3 0 0 6", "item 3 2 6 0", "run 0 = 1").settled(0, 10, 6);
        says("then RODS, by numbers").even(3)
                .make("rod 0 2 12 = 0", "item 3 0 0 5", "item 3 1 5 0", "run 0 = 1").settled(0, 10, 2);
        says("then RODS, by numbers").even(3)
                .make("rod 0 2 12 = 0", "rod 0 1 10 = 1", "run 0 = 1").settled(0, 10, 6)
                .make("drop 0 = 1", "rod 0 2 12 = 2", "run 0 = 1").settled(0, 10, 2);
    }

    private void needsWithinTheLine() {
        String sentence = "Each NEED whose COLUMNS both belong to them";
        says(sentence).even(5).make("rod 1 3 40 = 0")
                .make("line 1 3 0 = 1").settled(1, 20, 20)
                .make("line 0 3 0 = 1").settled(0, 0, 20, 20)
                .make("line 1 4 0 = 1").settled(1, 20, 20, 0)
                .make("line 0 4 0 = 1").settled(0, 0, 20, 20, 0)
                .each(0, "line 2 3 0", "line 1 2 0", "line 0 2 0", "line 2 4 0", "line 0 1 0", "line 3 4 0");
        says(sentence).even(5).make("item 2 1 0 15", "item 2 3 25 0")
                .make("line 1 3 0 = 1").settled(1, 20, 20)
                .each(0, "line 2 3 0", "line 1 2 0", "line 0 2 0", "line 2 4 0", "line 0 1 0", "line 3 4 0");
        // Outside the line an item still stands between two others.
        says(sentence).even(3).make("item 0 0 0 9", "item 0 2 9 0", "item 0 1 0 0", "line 0 1 0 = 1", "over = 9");
    }

    private void needsAsManyAsThereMayBe() {
        Rows rows = says("ROWS OF NEEDS").even(24);
        for (int staff = 0; staff < 4; staff++) {
            for (int column = 0; column < 24; column++) {
                rows.make("item " + staff + " " + column + " 500 500 = 1");
            }
        }
        for (int rod = 0; rod < 19; rod++) {
            rows.make("rod 0 23 5000 = " + rod);
        }
        rows.make("rod 22 23 1001 = 19", "run 20000 = 1", "over = 3001", "settled 22 = 1001", "settled 21 = 1000");
    }

    private void settlingWhatIsEnough() {
        says("if the sum of the leasts of its GAPS is below what it needs").even(3)
                .make("least 0 7", "least 1 3", "rod 0 2 10", "run 10 = 0").settled(0, 7, 3)
                .make("least 0 10", "least 1 0", "run 10 = 0").settled(0, 10, 0)
                .make("least 0 11", "run 11 = 0").settled(0, 11, 0);
    }

    private void settlingWhatIsOneBelow() {
        says("if the sum of the leasts of its GAPS is below what it needs").even(3)
                .make("least 0 7", "least 1 2", "rod 0 2 10", "run 10 = 0").settled(0, 7, 3)
                .make("least 0 9", "least 1 0", "run 10 = 0").settled(0, 9, 1)
                .make("least 0 4", "least 1 5", "run 10 = 0").settled(0, 5, 5);
    }

    private void settlingRoundedUp() {
        says("each of their leasts becomes f SPRING, rounded up").even(4)
                .make("rod 0 3 9 = 0", "run 0 = 1").settled(0, 3, 3, 3)
                .make("rod 0 3 10 = 1", "run 0 = 1").settled(0, 4, 4, 4)
                .make("rod 0 3 12 = 2", "run 0 = 1").settled(0, 4, 4, 4);
        says("each of their leasts becomes f SPRING, rounded up").even(24)
                .make("rod 0 23 1 = 0", "run 23 = 0", "run 22 = 1").settled(0, 1, 1).settled(22, 1);
    }

    private void settlingIfThatIsMore() {
        // 10 without the 6 leaves 2 for each of the others: one is 2 already, one 1.
        says("rounded up, if that is more").even(4)
                .make("least 0 6", "least 1 2", "least 2 1", "rod 0 3 10", "run 0 = 1").settled(0, 6, 2, 2);
        // 5 / 2, rounded up to 3, and a least of 3 already there
        says("rounded up, if that is more").even(3)
                .make("least 0 3", "least 1 1", "rod 0 2 5", "run 0 = 1").settled(0, 3, 2);
    }

    private void settlingWithoutASpring() {
        String sentence = "(Without a SPRING above 0 among those GAPS the last of them gets what lacks.)";
        says(sentence).even(4).make("table 0 0", "least 0 2", "least 2 3", "rod 0 3 10", "run 0 = 1")
                .settled(0, 2, 0, 8)
                .make("rod 0 1 2", "rod 0 1 3", "run 0 = 1").settled(0, 3, 0, 8)
                .make("rod 0 2 3", "rod 0 2 4", "run 0 = 1").settled(0, 3, 1, 8);
        // Other gaps of the line have springs.
        says(sentence).make("table 0 1").columns(0, 2, 3, 4, 6)
                .make("rod 1 3 10", "run 100 = 0").settled(0, 0, 0, 10, 0)
                .make("width 0 0 = 45", "width 1 0 = 0", "width 2 0 = 10", "width 3 0 = 45");
    }

    private void settlingWithOneSpring() {
        says("(Without a SPRING above 0 among those GAPS the last of them gets what lacks.)")
                .make("table 0 1").columns(0, 2, 3, 4)
                .make("least 2 4", "rod 0 3 10", "run 0 = 1").settled(0, 6, 0, 4);
    }

    private void settlingAsTold() {
        says("their leasts l are at first as told").even(3)
                .make("least 0 5", "rod 0 2 50", "run 0 = 1").settled(0, 25, 25)
                .make("run 0 = 1").settled(0, 25, 25)
                .make("line 0 1 0 = 1").settled(0, 5)
                .make("least 0 5 = 5", "least 1 0 = 0");
    }

    private void runWithoutAGap() {
        says("-3 there is no GAP").make("run 0 = -3", "run 20000 = -3", "column 0 = 0", "run 0 = -3",
                "run 20000 = -3", "over = -3", "column 1 = 1", "run 0 = 0", "clear = 2", "run 0 = -3");
    }

    private void runAtTheBoundsOfExtent() {
        says("EXTENT is not 0 .. 20000").even(2)
                .make("run 0 = 0", "place 1 = 0", "run 1 = 0", "place 1 = 1", "run 19999 = 0",
                        "place 1 = 19999", "run 20000 = 0", "place 1 = 20000");
    }

    private void runOutsideTheBoundsOfExtent() {
        says("EXTENT is not 0 .. 20000").even(2)
                .each(-2, "run -1", "run 20001", "run low", "run high").make("over = -3");
    }

    private void runRefusalsInOrder() {
        says("the first that fits").each(-2, "run -1", "run 20001", "run low", "run high")
                .make("column 0 = 0").each(-2, "run -1", "run 20001", "run low", "run high")
                .make("run 5 = -3");
    }

    private void runOverfullByOne() {
        says("It is OVERFULL by the sum of the leasts less EXTENT, if that is above 0 (f is 0 then)").even(3)
                .make("least 0 6", "least 1 4", "run 11 = 0", "over = 0", "run 10 = 0", "over = 0",
                        "force 0 = 0", "force 1 = 1", "run 9 = 1", "over = 1", "force 0 = 0", "force 1 = 1",
                        "width 0 0 = 6", "width 0 1 = 1", "width 1 0 = 4", "width 1 1 = 1");
    }

    private void runLooseByOne() {
        says("LOOSE, if no SPRING is above 0 and the sum is below EXTENT (f is 0 then, too)").even(3)
                .make("table 0 0", "least 0 6", "least 1 4", "run 10 = 0", "over = 0", "run 11 = 2", "over = 0",
                        "force 0 = 0", "force 1 = 1", "width 0 0 = 6", "width 1 0 = 4", "width 1 1 = 1",
                        "run 9 = 1", "over = 1", "run 20000 = 2", "place 2 = 10",
                        "least 0 0", "least 1 0", "run 0 = 0", "run 1 = 2");
        // One spring above 0, the smallest there is, is enough.
        says("LOOSE, if no SPRING is above 0").make("table 0 1").columns(0, 1, 3)
                .make("run 20000 = 0", "width 0 0 = 0", "width 1 0 = 20000", "line 0 1 1 = 2", "line 1 2 1 = 0");
    }

    private void runIsNoMoreAfterEachChange() {
        String[] changes = {"table 1 0", "table 2 3", "column 3", "column 100000", "clear", "least 0 5",
            "least 0 0", "least 1 9", "item 0 0 1 1", "item 3 2 0 0", "item 1 1 2 2", "remove 1 1", "rod 0 1 0",
            "rod 0 2 5", "drop 0", "bar 1 true", "bar 1 false", "bar 0 true", "bar 2 false"};
        for (String change : changes) {
            for (String take : new String[] {"run 20", "line 0 1 20", "line 0 2 0"}) {
                Rows rows = says("(What it tells is no more when anything is changed.) after " + change).even(3)
                        .make("item 1 1 2 2 = 1", "rod 1 2 7 = 0", take);
                due.holds(change + " is not refused", rows.answer(change) >= 0);
                rows.each(-3, TOLD);
            }
        }
    }

    private void runIsLeftByRefusals() {
        says("REFUSALS are answers below 0, and change nothing").even(3)
                .make("least 0 5", "line 0 1 3 = 1")
                .each(-2, "run -1", "run 20001", "line 0 2 -1", "line 1 1 5", "line 2 1 5", "lines -1")
                .each(-1, "line 0 3 5", "line -1 2 5", "natural 0 3", "least 2 0", "drop 0")
                .make("over = 2", "settled 0 = 5", "settled 1 = -1", "place 1 = 5", "place 2 = -1");
    }

    private void runTakesThePlaceOfAnother() {
        says("THE LINE at hand: all GAPS").even(4)
                .make("line 1 2 7 = 0", "place 0 = -1", "run 9 = 0").places(0, 0, 3, 6, 9)
                .make("line 2 3 5 = 0", "place 1 = -1").places(2, 0, 5).make("settled 1 = -1", "settled 2 = 0");
    }

    private void lineOfNoColumns() {
        says("-1 no such COLUMNS").each(-1, "line 0 0 5", "line 0 1 5", "line -1 0 5")
                .make("column 0 = 0").each(-1, "line 0 1 5", "line -1 0 5", "line 1 2 5")
                .make("column 1 = 1")
                .each(-1, "line 0 2 5", "line -1 1 5", "line low 1 5", "line 0 high 5", "line high 1 5",
                        "line 0 low 5", "line low high 5", "line 2 1 5", "line 0 -1 5")
                .make("over = -3", "line 0 1 5 = 0");
        says("-1 no such COLUMNS").even(24).make("line 0 24 5 = -1", "line 24 23 5 = -1", "line 0 23 5 = 0");
    }

    private void lineFirstNotBelowLast() {
        says("-2 first is not below last, or EXTENT").make("column 0 = 0", "line 0 0 5 = -2").columns(1, 2)
                .each(-2, "line 0 0 5", "line 1 1 5", "line 2 2 5", "line 1 0 5", "line 2 0 5", "line 2 1 5")
                .make("over = -3");
    }

    private void lineOutsideTheBoundsOfExtent() {
        says("-2 first is not below last, or EXTENT").even(3)
                .each(-2, "line 0 1 -1", "line 0 1 20001", "line 0 1 low", "line 0 1 high", "line 0 2 -1")
                .make("over = -3", "line 0 1 0 = 0", "place 1 = 0", "line 0 1 20000 = 0", "place 1 = 20000");
    }

    private void lineRefusalsInOrder() {
        says("the first that fits").make("line 0 0 -1 = -1").even(3)
                .each(-1, "line 3 3 5", "line 3 2 5", "line 0 3 -1", "line -1 -1 20001", "line 3 0 low")
                .each(-2, "line 2 1 -1", "line 1 1 20001");
    }

    private void lineOfTheOutermostColumns() {
        says("The same of the GAPS first .. last - 1").even(24)
                .make("least 0 3", "least 22 4")
                .make("line 0 1 2 = 1", "settled 0 = 3", "settled 1 = -1", "place 0 = 0", "place 1 = 3",
                        "place 2 = -1")
                .make("line 22 23 3 = 1", "settled 22 = 4", "settled 21 = -1", "place 22 = 0", "place 23 = 4",
                        "place 21 = -1", "place 24 = -1")
                .make("line 0 23 23 = 0", "settled 0 = 3", "settled 22 = 4", "place 23 = 23")
                .make("line 1 22 21 = 0", "settled 0 = -1", "settled 22 = -1", "place 1 = 0", "place 22 = 21");
    }

    private void lineOverfullAndLoose() {
        says("The same of the GAPS first .. last - 1").even(4)
                .make("least 1 5", "line 1 2 4 = 1", "line 1 2 5 = 0", "line 1 2 6 = 0", "line 0 1 0 = 0",
                        "table 0 0", "line 1 2 4 = 1", "line 1 2 5 = 0", "line 1 2 6 = 2", "line 0 1 0 = 0",
                        "line 0 1 1 = 2");
    }

    private void overWithoutALine() {
        says("-3 there is no LINE at hand").make("over = -3").even(2)
                .make("over = -3", "lines 5 = 1", "natural 0 1 = 1", "over = -3", "run 5 = 0", "over = 0");
    }

    private void overByTheSumOfTheLeasts() {
        says("By how much it is OVERFULL (0: it is not)").even(3)
                .make("least 0 1000", "least 1 1000", "run 0 = 1", "over = 2000", "run 1999 = 1", "over = 1",
                        "run 2000 = 0", "over = 0", "run 2001 = 0", "over = 0", "table 0 0", "run 2001 = 2",
                        "over = 0");
    }

    private void overOfTheWidest() {
        Rows rows = says("By how much it is OVERFULL").even(24);
        for (int rod = 0; rod < 20; rod++) {
            rows.make("rod " + rod + " " + (rod + 1) + " 5000 = " + rod);
        }
        rows.make("least 20 1000", "least 21 1000", "least 22 1000", "run 0 = 1", "over = 103000",
                "place 23 = 103000", "level 23 = 103000", "natural 0 23 = 103000", "run 20000 = 1", "over = 83000");
    }

    private void forceOfAnotherPart() {
        says("-2 another part").even(2).make("run 5 = 0")
                .each(-2, "force 2", "force -1", "force low", "force high")
                .make("force 0 = 5", "force 1 = " + UNIT);
    }

    private void forceWithoutALine() {
        says("-2 another part, -3").make("force 0 = -3", "force 1 = -3")
                .each(-2, "force 2", "force -1", "force low", "force high").even(2)
                .make("force 0 = -3", "force 1 = -3", "run 1 = 0", "force 1 = " + UNIT, "least 0 0",
                        "force 0 = -3", "force 1 = -3", "force 2 = -2");
    }

    private void forceOfNothing() {
        says("the least fraction f, 0 or more").even(2)
                .make("run 0 = 0", "force 0 = 0", "force 1 = 1", "least 0 8", "run 0 = 1", "force 0 = 0",
                        "force 1 = 1", "run 8 = 0", "force 0 = 0", "force 1 = 1");
    }

    private void forceOfOneMoreThanTheLeasts() {
        // The gap with the least of 0 gives way at once.
        says("for which the sum of max(l, f SPRING) of them is at least w").even(3)
                .make("least 0 8", "run 8 = 0", "force 0 = 0", "run 9 = 0", "force 0 = 1", "force 1 = " + UNIT,
                        "width 0 0 = 8", "width 0 1 = 1", "width 1 0 = 1", "width 1 1 = 1");
        // Where no gap has a least of 0, the force leaps to the first least.
        says("for which the sum of max(l, f SPRING) of them is at least w").even(3)
                .make("least 0 8", "least 1 8", "run 16 = 0", "force 0 = 0", "force 1 = 1", "run 17 = 0",
                        "force 0 = 17", "force 1 = " + 2 * UNIT, "width 0 0 = 17", "width 0 1 = 2");
    }

    private void forceWhereALeastIsJustReached() {
        says("for which the sum of max(l, f SPRING) of them is at least w").even(3)
                .make("least 0 8", "run 15 = 0", "force 0 = 7", "run 16 = 0", "force 0 = 1",
                        "force 1 = " + UNIT / 8, "run 17 = 0", "force 0 = 17", "force 1 = " + 2 * UNIT);
    }

    private void forceWithoutSomeSprings() {
        // 25 less 10 leaves 15 / 2 for each of the others, which is below 8: so 7 for the last.
        says("the sum of max(l, f SPRING)").make("table 0 1").columns(0, 1, 3, 5)
                .make("least 0 10", "least 1 8", "run 25 = 0", "force 0 = 7", "force 1 = " + UNIT)
                .places(0, 0, 10, 18, 25);
    }

    private void forceOfTheLargestNumbers() {
        Rows rows = says("f in lowest terms").make("table 100 100 = 1");
        long springs = 0;
        for (int column = 0; column < 24; column++) {
            rows.make("column " + column * 4347 + " = " + column);
        }
        for (int gap = 0; gap < 23; gap++) {
            springs += 100 * UNIT + 100 * 12 * UNIT + 100 * (4347 - 4096) * UNIT / 4096;
        }
        long divisor = commonDivisor(20000, springs);
        rows.make("run 20000 = 0", "force 0 = " + 20000 / divisor, "force 1 = " + springs / divisor,
                "place 23 = 20000");
        rows.make("least 0 1000", "run 20000 = 0", "force 0 = " + 19000 / commonDivisor(19000, springs / 23 * 22),
                "place 1 = 1000", "place 23 = 20000");
    }

    private static long commonDivisor(long one, long other) {
        return other == 0 ? one : commonDivisor(other, one % other);
    }

    private void widthWithoutALine() {
        says("-3, -1 it has not this GAP, -2").each(-3, "width 0 0", "width 0 1").even(2)
                .each(-3, "width 0 0", "width 0 1").make("run 3 = 0", "width 0 0 = 3", "width 0 1 = 1");
    }

    private void widthOfNoGapOfIt() {
        says("-1 it has not this GAP").even(5).make("line 1 3 9 = 0")
                .each(-1, "width 0 0", "width 3 0", "width 4 0", "width -1 0", "width low 0", "width high 0",
                        "width 0 1", "width 3 1")
                .make("width 1 0 = 9", "width 1 1 = 2", "width 2 0 = 9", "width 2 1 = 2");
        says("-1 it has not this GAP").even(24).make("run 46 = 0", "width 22 0 = 2", "width 0 0 = 2")
                .each(-1, "width 23 0", "width 24 0", "width -1 0");
    }

    private void widthOfAnotherPart() {
        says("-3, -1 it has not this GAP, -2").even(2).make("run 3 = 0")
                .each(-2, "width 0 2", "width 0 -1", "width 0 low", "width 0 high");
    }

    private void widthRefusalsInOrder() {
        says("-3, -1 it has not this GAP, -2")
                .each(-3, "width 0 2", "width -1 0", "width high low", "width 9 9").even(3)
                .each(-3, "width 0 2", "width 9 0", "width 9 9").make("line 0 1 5 = 0")
                .each(-1, "width 1 2", "width -1 -1", "width high high").each(-2, "width 0 2");
    }

    private void widthOfNothing() {
        says("The WIDTH of a GAP of it, in lowest terms").even(3)
                .make("run 0 = 0", "width 0 0 = 0", "width 0 1 = 1", "run 4 = 0", "width 0 0 = 2", "width 0 1 = 1",
                        "run 5 = 0", "width 0 0 = 5", "width 0 1 = 2");
        // A gap without a spring keeps its nothing while the other one is stretched.
        says("The WIDTH of a GAP of it, in lowest terms").make("table 0 1").columns(0, 1, 4)
                .make("run 7 = 0", "width 0 0 = 0", "width 0 1 = 1", "width 1 0 = 7", "width 1 1 = 1",
                        "force 0 = 7", "force 1 = " + (UNIT + UNIT / 2));
    }

    private void widthOfTheLargestNumbers() {
        Rows rows = says("The WIDTH of a GAP of it, in lowest terms").make("table 100 99 = 1")
                .columns(0, 33331, 100000).make("run 19997 = 0");
        long one = 65536L * (100 + 99 * 15) + 99 * (33331 - 32768) * 2;
        long other = 65536L * (100 + 99 * 16) + 99 * (66669 - 65536);
        long divisor = commonDivisor(19997 * one, one + other);
        rows.make("width 0 0 = " + 19997 * one / divisor, "width 0 1 = " + (one + other) / divisor);
        divisor = commonDivisor(19997 * other, one + other);
        rows.make("width 1 0 = " + 19997 * other / divisor, "width 1 1 = " + (one + other) / divisor);
    }

    private void settledWithoutALine() {
        says("The least of a GAP of it, SETTLED. -3, -1.").each(-3, "settled 0", "settled -1", "settled high")
                .even(2).each(-3, "settled 0", "settled 1", "settled low")
                .make("run 3 = 0", "settled 0 = 0", "column 9", "settled 0 = -3");
    }

    private void settledOfNoGapOfIt() {
        says("The least of a GAP of it, SETTLED. -3, -1.").even(5).make("line 1 3 9 = 0")
                .each(-1, "settled 0", "settled 3", "settled 4", "settled -1", "settled low", "settled high")
                .settled(1, 0, 0);
        says("The least of a GAP of it, SETTLED. -3, -1.").even(24).make("run 9 = 0").settled(0, 0)
                .settled(22, 0).each(-1, "settled 23", "settled 24");
    }

    private void settledAboveWhatMayBeTold() {
        says("The least of a GAP of it, SETTLED").even(2)
                .make("least 0 1000", "rod 0 1 1001", "run 0 = 1").settled(0, 1001)
                .make("rod 0 1 5000", "run 0 = 1").settled(0, 5000).make("least 0 0 = 1000");
    }

    private void placeWithoutALine() {
        says("The PLACE of a COLUMN of it. -3, -1.").each(-3, "place 0", "place -1", "place high").even(2)
                .each(-3, "place 0", "place 1", "place 2", "place low").make("run 3 = 0").places(0, 0, 3);
    }

    private void placeOfNoColumnOfIt() {
        says("The PLACE of a COLUMN of it. -3, -1.").even(5).make("line 1 3 9 = 0")
                .each(-1, "place 0", "place 4", "place 5", "place -1", "place low", "place high")
                .places(1, 0, 4, 9);
        says("The PLACE of a COLUMN of it. -3, -1.").even(24).make("run 24 = 0", "place 23 = 24")
                .each(-1, "place 24", "place 25", "place -1");
    }

    private void placeRoundedDown() {
        String sentence = "the sum of the WIDTHS before it, rounded down";
        // Thirds: what is left over is carried, and the whole is whole again.
        says(sentence).even(4).make("run 10 = 0").places(0, 0, 3, 6, 10)
                .make("run 11 = 0").places(0, 0, 3, 7, 11)
                .make("run 12 = 0").places(0, 0, 4, 8, 12)
                .make("run 1 = 0").places(0, 0, 0, 0, 1)
                .make("run 2 = 0").places(0, 0, 0, 1, 2)
                .make("run 3 = 0").places(0, 0, 1, 2, 3);
        Rows rows = says(sentence).even(24).make("run 22 = 0");
        for (int column = 0; column < 24; column++) {
            rows.make("place " + column + " = " + 22 * column / 23);
        }
    }

    private void placeOfAnOverfullLine() {
        says("the sum of the WIDTHS before it").even(3).make("least 0 6", "least 1 4", "run 0 = 1")
                .places(0, 0, 6, 10);
    }

    private void placeOfALooseLine() {
        says("the sum of the WIDTHS before it").even(3).make("table 0 0", "least 0 6", "least 1 4", "run 99 = 2")
                .places(0, 0, 6, 10).make("level 0 = 0", "level 1 = 6", "level 2 = 10");
    }

    private void levelWithoutALine() {
        says("-3, -2 the TIME is not between them")
                .each(-3, "level 0", "level -1", "level 100001", "level low", "level high").even(2)
                .each(-3, "level 0", "level 1", "level 2", "level -1");
    }

    private void levelNotBetween() {
        says("-2 the TIME is not between them").make("table 1 0").columns(10, 20, 30, 40)
                .make("run 30 = 0", "level 10 = 0", "level 40 = 30")
                .each(-2, "level 9", "level 41", "level 0", "level -1", "level low", "level high",
                        "level 100000", "level 100001")
                .make("line 1 2 30 = 0", "level 20 = 0", "level 30 = 30")
                .each(-2, "level 19", "level 31", "level 10", "level 40");
        says("-2 the TIME is not between them").make("table 1 0").columns(0, 100000)
                .make("run 9 = 0", "level 0 = 0", "level 100000 = 9", "level 99999 = 8", "level 1 = 0")
                .each(-2, "level -1", "level 100001");
    }

    private void levelAtAColumn() {
        Rows rows = says("that of the COLUMN before it (or at it)").even(24).make("run 100 = 0");
        for (int column = 0; column < 24; column++) {
            rows.make("level " + column + " = " + 100 * column / 23, "place " + column + " = " + 100 * column / 23);
        }
    }

    private void levelRoundedDownTogether() {
        String sentence = "the share of the GAP's WIDTH that the TIME has of its DURATION, together rounded down";
        // Widths of 5/2: at a half and one share in four, 2.5 and 0.625 or 1.25 or 1.875.
        says(sentence).make("table 1 0").columns(0, 4, 8).make("run 5 = 0", "place 1 = 2", "level 4 = 2",
                "level 5 = 3", "level 6 = 3", "level 7 = 4", "level 8 = 5", "level 3 = 1", "level 2 = 1",
                "level 1 = 0");
        // Widths of 3/2: 1.5 and a third of it are 2 exactly, and one time earlier just below.
        says(sentence).make("table 1 0").columns(0, 30, 60).make("run 3 = 0", "level 40 = 2", "level 39 = 1",
                "level 20 = 1", "level 19 = 0", "level 59 = 2", "level 60 = 3");
    }

    private void levelOfTheLargestNumbers() {
        Rows rows = says("together rounded down").make("table 100 99 = 1")
                .columns(0, 1, 100000).make("run 20000 = 0");
        long one = 65536L * 100;
        long other = 65536L * (100 + 99 * 16) + 99 * (99999 - 65536);
        for (int time = 0; time < 100000; time += 4999) {
            // In units of (one + other) * 99999; all of it stays below 2^63.
            long share = time < 1 ? 0 : 20000 * (one * 99999 + other * (time - 1)) / ((one + other) * 99999);
            rows.make("level " + time + " = " + share);
        }
        rows.make("level 99999 = 19999", "level 100000 = 20000");
    }
}
