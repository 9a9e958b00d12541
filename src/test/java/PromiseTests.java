/** The promises of the document one by one: ordinary inputs, edges, wrong inputs. */
public final class PromiseTests {
    private static final int HUGE = Integer.MAX_VALUE;
    private static final int LOW = Integer.MIN_VALUE;
    private static final long UNIT = 65536;

    private final Due due = new Due();

    public static void main(String[] args) {
        PromiseTests tests = new PromiseTests();
        tests.beginnings();
        tests.thingsAtColumns();
        tests.oneLine();
        tests.settling();
        tests.severalLines();
        tests.due.end();
    }

    private void beginnings() {
        promise1NewObject();
        promise2Table();
        promise3Column();
        promise4Clear();
        promise4ClearTakesRodsAndBars();
        promise5Spring();
    }

    private void thingsAtColumns() {
        promise6Least();
        promise7Item();
        promise8Remove();
        promise9Rod();
        promise9RodNumbers();
        promise10Drop();
        promise11Bar();
    }

    private void oneLine() {
        promise12Run();
        promise12IsForgottenByEachChange();
        promise12IsKeptByRefusalsAndQuestions();
        promise13Line();
        promise14Over();
        promise15Force();
        promise15ForceWithStiffGaps();
        promise15ForceWithoutSomeSprings();
        promise16Width();
        promise17Settled();
        promise18Place();
        promise19Level();
        promise19LevelOfLargestNumbers();
    }

    private void settling() {
        needsAreRoundedUp();
        needsAsManyAsCanBe();
        needsAreMetInOrder();
        needsWithoutSprings();
        needsOutsideTheLine();
        needsOfNeighboursOnly();
    }

    private void severalLines() {
        promise20Lines();
        promise20Ties();
        promise20CostsBeforeCountsBeforeLengths();
        promise20AllBars();
        promise21Begin();
        promise22Cost();
        promise22CostOfLastLine();
        promise22CostBeyondAnInt();
        promise23Natural();
    }

    private void is(String call, long got, long want) {
        due.is(call, got, want);
    }

    /** Columns at times 0, 1, .. with springs of one unit each. */
    private static SpringSpaces even(int columns) {
        SpringSpaces s = new SpringSpaces();
        s.table(1, 0);
        for (int c = 0; c < columns; c++) {
            s.column(c);
        }
        return s;
    }

    /** Gaps with these leasts and no springs, bars at each column. */
    private static SpringSpaces blocks(int... leasts) {
        SpringSpaces s = even(leasts.length + 1);
        s.table(0, 0);
        for (int gap = 0; gap < leasts.length; gap++) {
            s.least(gap, leasts[gap]);
            s.bar(gap, true);
        }
        return s;
    }

    private void isSettled(String what, SpringSpaces s, int... leasts) {
        for (int gap = 0; gap < leasts.length; gap++) {
            is(what + ": settled(" + gap + ")", s.settled(gap), leasts[gap]);
        }
    }

    private void beginAt(String what, SpringSpaces s, int extent, int... begins) {
        is(what + ": lines(" + extent + ")", s.lines(extent), begins.length - 1);
        for (int k = 0; k < begins.length; k++) {
            is(what + ": begin(" + k + ")", s.begin(k), begins[k]);
        }
        is(what + ": begin behind the end", s.begin(begins.length), -1);
    }

    private void promise1NewObject() {
        SpringSpaces s = new SpringSpaces();
        is("1: over()", s.over(), -3);
        is("1: settled(0)", s.settled(0), -3);
        is("1: place(0)", s.place(0), -3);
        is("1: level(0)", s.level(0), -3);
        is("1: begin(0)", s.begin(0), -3);
        is("1: cost()", s.cost(), -3);
        is("1: spring(1)", s.spring(1), 10 * UNIT);
        is("1: spring(2)", s.spring(2), 16 * UNIT);
        is("1: bar(0, true)", s.bar(0, true), -1);
        is("1: least(0, 0)", s.least(0, 0), -1);
        is("1: drop(0)", s.drop(0), -1);
        is("1: clear()", s.clear(), 0);
        is("1: column(0)", s.column(0), 0);
    }

    private void promise2Table() {
        SpringSpaces s = new SpringSpaces();
        is("2: table(0, 0)", s.table(0, 0), 1);
        is("2: spring(1000)", s.spring(1000), 0);
        is("2: table(100, 100)", s.table(100, 100), 1);
        is("2: spring(1)", s.spring(1), 100 * UNIT);
        is("2: spring(4)", s.spring(4), 300 * UNIT);
        is("2: table(-1, 0)", s.table(-1, 0), -2);
        is("2: table(101, 0)", s.table(101, 0), -2);
        is("2: table(0, -1)", s.table(0, -1), -2);
        is("2: table(0, 101)", s.table(0, 101), -2);
        is("2: table(low, huge)", s.table(LOW, HUGE), -2);
        is("2: spring(4) after refusals", s.spring(4), 300 * UNIT);
        s.column(0);
        s.column(4);
        s.table(3, 2);
        s.run(10);
        is("2: gaps there already follow", s.natural(0, 1), 7);
    }

    private void promise3Column() {
        SpringSpaces s = new SpringSpaces();
        is("3: column(-1)", s.column(-1), -2);
        is("3: column(100001)", s.column(100001), -2);
        is("3: column(low)", s.column(LOW), -2);
        is("3: column(0)", s.column(0), 0);
        is("3: column(0) again", s.column(0), -3);
        is("3: column(5)", s.column(5), 1);
        is("3: column(4)", s.column(4), -3);
        for (int c = 2; c < 24; c++) {
            is("3: column " + c, s.column(10 * c), c);
        }
        is("3: no room", s.column(1000), -4);
        is("3: no room, not above", s.column(230), -3);
        is("3: no room, outside", s.column(HUGE), -2);
        is("3: there are 24", s.clear(), 24);
        is("3: column(100000)", s.column(100000), 0);
        is("3: none above", s.column(100000), -3);
    }

    private void promise4Clear() {
        SpringSpaces s = even(3);
        s.least(0, 30);
        s.item(0, 0, 20, 20);
        s.item(0, 1, 20, 20);
        is("4: clear()", s.clear(), 3);
        is("4: clear() again", s.clear(), 0);
        is("4: the table stays", s.spring(7), UNIT);
        is("4: no column", s.bar(0, true), -1);
        is("4: column(0)", s.column(0), 0);
        is("4: column(1)", s.column(1), 1);
        is("4: no item", s.remove(0, 0), -1);
        is("4: no item", s.item(0, 1, 0, 0), 1);
        is("4: the least is gone", s.least(0, 0), 0);
        is("4: run(0)", s.run(0), 0);
    }

    private void promise4ClearTakesRodsAndBars() {
        SpringSpaces s = even(3);
        s.rod(0, 2, 100);
        s.rod(0, 1, 100);
        s.bar(0, true);
        s.bar(1, true);
        s.run(5);
        s.lines(5);
        is("4: clear()", s.clear(), 3);
        is("4: no line at hand", s.over(), -3);
        is("4: no lines", s.cost(), -3);
        s.column(0);
        s.column(1);
        s.column(2);
        is("4: no rod", s.drop(0), -1);
        is("4: no need", s.natural(0, 2), 2);
        is("4: no bar", s.bar(0, false), 0);
        is("4: no bar", s.bar(1, false), 0);
        is("4: a number does not come again", s.rod(0, 1, 1), 2);
        is("4: rods are counted anew", s.drop(2), 0);
    }

    private void promise5Spring() {
        SpringSpaces s = new SpringSpaces();
        is("5: spring(3)", s.spring(3), 19 * UNIT);
        is("5: spring(100000)", s.spring(100000), 7153600);
        is("5: spring(0)", s.spring(0), -2);
        is("5: spring(-5)", s.spring(-5), -2);
        is("5: spring(100001)", s.spring(100001), -2);
        is("5: spring(low)", s.spring(LOW), -2);
        s.table(100, 100);
        is("5: spring(65535)", s.spring(65535), 1600 * UNIT + 100 * 32767 * 2);
        is("5: spring(65536)", s.spring(65536), 1700 * UNIT);
        is("5: spring(65537)", s.spring(65537), 1700 * UNIT + 100);
        s.table(0, 1);
        is("5: spring(1) without base", s.spring(1), 0);
        is("5: spring(2) without base", s.spring(2), UNIT);
    }

    private void promise6Least() {
        SpringSpaces s = even(3);
        is("6: least(0, 1000)", s.least(0, 1000), 0);
        is("6: least(0, 0)", s.least(0, 0), 1000);
        is("6: least(1, 7)", s.least(1, 7), 0);
        is("6: least(2, 7)", s.least(2, 7), -1);
        is("6: least(-1, 7)", s.least(-1, 7), -1);
        is("6: least(huge, -1)", s.least(HUGE, -1), -1);
        is("6: least(1, -1)", s.least(1, -1), -2);
        is("6: least(1, 1001)", s.least(1, 1001), -2);
        is("6: least(1, 8)", s.least(1, 8), 7);
        s.column(9);
        is("6: a new gap", s.least(2, 1), 0);
        is("6: natural", s.natural(0, 3), 1 + 8 + 1);
    }

    private void promise7Item() {
        SpringSpaces s = even(3);
        is("7: item(0, 0, 0, 500)", s.item(0, 0, 0, 500), 1);
        is("7: item(3, 2, 500, 0)", s.item(3, 2, 500, 0), 1);
        is("7: item(3, 0, 1, 1)", s.item(3, 0, 1, 1), 1);
        is("7: natural", s.natural(0, 2), 502);
        is("7: in place", s.item(3, 0, 1, 3), 0);
        is("7: natural", s.natural(0, 2), 504);
        is("7: item(4, 0, 1, 1)", s.item(4, 0, 1, 1), -1);
        is("7: item(-1, 0, 1, 1)", s.item(-1, 0, 1, 1), -1);
        is("7: item(0, 3, 1, 1)", s.item(0, 3, 1, 1), -1);
        is("7: item(0, -1, 1, 1)", s.item(0, -1, 1, 1), -1);
        is("7: item(4, 0, -1, 1)", s.item(4, 0, -1, 1), -1);
        is("7: left -1", s.item(3, 0, -1, 1), -2);
        is("7: left 501", s.item(3, 0, 501, 1), -2);
        is("7: right -1", s.item(3, 0, 1, -1), -2);
        is("7: right 501", s.item(3, 0, 1, 501), -2);
        is("7: natural after refusals", s.natural(0, 2), 504);
    }

    private void promise8Remove() {
        SpringSpaces s = even(3);
        s.item(1, 0, 0, 50);
        s.item(1, 1, 60, 60);
        s.item(1, 2, 50, 0);
        is("8: natural", s.natural(0, 2), 220);
        is("8: remove(0, 1)", s.remove(0, 1), -1);
        is("8: remove(1, 1)", s.remove(1, 1), 1);
        is("8: those next to it stand next to one another", s.natural(0, 2), 100);
        is("8: remove(1, 1) again", s.remove(1, 1), -1);
        is("8: remove(4, 0)", s.remove(4, 0), -1);
        is("8: remove(-1, 0)", s.remove(-1, 0), -1);
        is("8: remove(1, 3)", s.remove(1, 3), -1);
        is("8: remove(1, low)", s.remove(1, LOW), -1);
        is("8: a new one", s.item(1, 1, 0, 0), 1);
    }

    private void promise9Rod() {
        SpringSpaces s = even(3);
        is("9: rod(0, 3, 1)", s.rod(0, 3, 1), -1);
        is("9: rod(-1, 2, 1)", s.rod(-1, 2, 1), -1);
        is("9: rod(2, 3, -1)", s.rod(2, 3, -1), -1);
        is("9: rod(1, 1, 1)", s.rod(1, 1, 1), -2);
        is("9: rod(2, 1, 1)", s.rod(2, 1, 1), -2);
        is("9: rod(0, 1, -1)", s.rod(0, 1, -1), -2);
        is("9: rod(0, 1, 5001)", s.rod(0, 1, 5001), -2);
        is("9: rod(0, 1, 5000)", s.rod(0, 1, 5000), 0);
        is("9: natural(0, 1)", s.natural(0, 1), 5000);
        is("9: rod(0, 2, 0)", s.rod(0, 2, 0), 1);
        is("9: rod(0, 2, 6)", s.rod(0, 2, 6), 2);
    }

    private void promise9RodNumbers() {
        SpringSpaces s = even(3);
        for (int rod = 0; rod < 19; rod++) {
            is("9: rod " + rod, s.rod(0, 1, rod), rod);
        }
        is("9: drop(18)", s.drop(18), 18);
        is("9: its number does not come again", s.rod(0, 2, 77), 19);
        is("9: there were 20", s.rod(0, 1, 1), -4);
        is("9: there were 20, outside", s.rod(1, 1, 1), -2);
        is("9: there were 20, no such column", s.rod(0, 3, 1), -1);
        is("9: natural", s.natural(0, 2), 77 + 1);
        is("9: drop(20)", s.drop(20), -1);
        is("9: clear()", s.clear(), 3);
        s.column(0);
        s.column(1);
        is("9: no rod", s.drop(19), -1);
        is("9: there were 20, cleared or not", s.rod(0, 1, 1), -4);
    }

    private void promise10Drop() {
        SpringSpaces s = even(3);
        s.rod(0, 1, 30);
        s.rod(0, 2, 50);
        s.rod(1, 2, 10);
        is("10: drop(3)", s.drop(3), -1);
        is("10: drop(-1)", s.drop(-1), -1);
        is("10: drop(low)", s.drop(LOW), -1);
        is("10: drop(1)", s.drop(1), 2);
        is("10: natural", s.natural(0, 2), 40);
        is("10: drop(1) again", s.drop(1), -1);
        is("10: drop(0)", s.drop(0), 1);
        is("10: drop(2)", s.drop(2), 0);
        is("10: natural without rods", s.natural(0, 2), 2);
    }

    private void promise11Bar() {
        SpringSpaces s = even(3);
        is("11: bar(1, false)", s.bar(1, false), 0);
        is("11: bar(1, true)", s.bar(1, true), 0);
        is("11: bar(1, true) again", s.bar(1, true), 1);
        is("11: bar(1, false)", s.bar(1, false), 1);
        is("11: bar(1, false) again", s.bar(1, false), 0);
        is("11: bar(0, true)", s.bar(0, true), 0);
        is("11: bar(2, true)", s.bar(2, true), 0);
        is("11: bar(3, true)", s.bar(3, true), -1);
        is("11: bar(-1, true)", s.bar(-1, true), -1);
        s.column(50);
        is("11: a bar stays when columns follow", s.lines(2), 2);
        is("11: begin(1)", s.begin(1), 2);
    }

    private void promise12Run() {
        SpringSpaces s = even(1);
        is("12: no gap", s.run(0), -3);
        is("12: no gap, outside", s.run(-1), -2);
        s.column(1);
        is("12: run(-1)", s.run(-1), -2);
        is("12: run(20001)", s.run(20001), -2);
        is("12: run(low)", s.run(LOW), -2);
        is("12: run(0)", s.run(0), 0);
        is("12: run(20000)", s.run(20000), 0);
        is("12: place(1)", s.place(1), 20000);
        s.least(0, 10);
        is("12: run(9)", s.run(9), 1);
        is("12: run(10)", s.run(10), 0);
        s.table(0, 0);
        is("12: run(9) without springs", s.run(9), 1);
        is("12: run(10) without springs", s.run(10), 0);
        is("12: run(11) without springs", s.run(11), 2);
    }

    private void answersAreGone(String what, SpringSpaces s) {
        is(what + ": over()", s.over(), -3);
        is(what + ": force(1)", s.force(1), -3);
        is(what + ": width(0, 0)", s.width(0, 0), -3);
        is(what + ": settled(0)", s.settled(0), -3);
        is(what + ": place(0)", s.place(0), -3);
        is(what + ": level(0)", s.level(0), -3);
        is(what + ": begin(0)", s.begin(0), -3);
        is(what + ": cost()", s.cost(), -3);
        s.run(20);
        s.lines(20);
    }

    private void promise12IsForgottenByEachChange() {
        SpringSpaces s = even(3);
        answersAreGone("12: at first", s);
        s.table(1, 1);
        answersAreGone("12: table", s);
        s.column(8);
        answersAreGone("12: column", s);
        s.least(0, 1);
        answersAreGone("12: least", s);
        s.least(0, 1);
        answersAreGone("12: least as it was", s);
        s.item(0, 0, 1, 1);
        answersAreGone("12: item", s);
        s.remove(0, 0);
        answersAreGone("12: remove", s);
        s.rod(0, 1, 1);
        answersAreGone("12: rod", s);
        s.drop(0);
        answersAreGone("12: drop", s);
        s.bar(1, true);
        answersAreGone("12: bar", s);
        s.clear();
        answersAreGone("12: clear", s);
    }

    private void promise12IsKeptByRefusalsAndQuestions() {
        SpringSpaces s = even(3);
        s.least(0, 4);
        s.bar(1, true);
        s.line(0, 1, 3);
        is("12: lines(3)", s.lines(3), 2);
        s.table(-1, 0);
        s.column(0);
        s.least(2, 0);
        s.item(0, 9, 0, 0);
        s.remove(0, 0);
        s.rod(1, 1, 0);
        s.drop(0);
        s.bar(9, true);
        s.run(-1);
        s.line(0, 2, -1);
        s.lines(-1);
        s.natural(0, 2);
        s.spring(4);
        is("12: over()", s.over(), 1);
        is("12: settled(0)", s.settled(0), 4);
        is("12: settled(1)", s.settled(1), -1);
        is("12: place(1)", s.place(1), 4);
        is("12: begin(1)", s.begin(1), 1);
        is("12: cost()", s.cost(), 1000000001);
        s.run(30);
        is("12: run leaves the lines", s.cost(), 1000000001);
    }

    private void promise13Line() {
        SpringSpaces s = even(5);
        is("13: line(0, 5, 9)", s.line(0, 5, 9), -1);
        is("13: line(-1, 2, 9)", s.line(-1, 2, 9), -1);
        is("13: line(9, 9, -1)", s.line(9, 9, -1), -1);
        is("13: line(2, 2, 9)", s.line(2, 2, 9), -2);
        is("13: line(3, 2, 9)", s.line(3, 2, 9), -2);
        is("13: line(1, 3, -1)", s.line(1, 3, -1), -2);
        is("13: line(1, 3, 20001)", s.line(1, 3, 20001), -2);
        is("13: no line yet", s.over(), -3);
        is("13: line(1, 3, 9)", s.line(1, 3, 9), 0);
        is("13: place(1)", s.place(1), 0);
        is("13: place(2)", s.place(2), 4);
        is("13: place(3)", s.place(3), 9);
        is("13: place(0)", s.place(0), -1);
        is("13: place(4)", s.place(4), -1);
        is("13: settled(3)", s.settled(3), -1);
        is("13: level(0)", s.level(0), -2);
        is("13: level(4)", s.level(4), -2);
        s.least(1, 10);
        is("13: line(1, 3, 9)", s.line(1, 3, 9), 1);
        is("13: line(2, 3, 9)", s.line(2, 3, 9), 0);
        s.table(0, 0);
        is("13: line(2, 3, 9)", s.line(2, 3, 9), 2);
    }

    private void promise14Over() {
        SpringSpaces s = even(3);
        is("14: no line", s.over(), -3);
        s.least(0, 30);
        s.least(1, 12);
        s.run(41);
        is("14: over()", s.over(), 1);
        s.run(0);
        is("14: over()", s.over(), 42);
        is("14: force(0)", s.force(0), 0);
        is("14: force(1)", s.force(1), 1);
        is("14: place(2)", s.place(2), 42);
        s.run(42);
        is("14: over()", s.over(), 0);
        s.run(100);
        is("14: over()", s.over(), 0);
    }

    private void promise15Force() {
        SpringSpaces s = even(4);
        is("15: force(0)", s.force(0), -3);
        is("15: force(2)", s.force(2), -2);
        s.run(10);
        is("15: force(0)", s.force(0), 5);
        is("15: force(1)", s.force(1), 3 * UNIT / 2);
        is("15: force(2)", s.force(2), -2);
        is("15: force(-1)", s.force(-1), -2);
        s.run(0);
        is("15: force(0) of nothing", s.force(0), 0);
        is("15: force(1) of nothing", s.force(1), 1);
        s.table(0, 0);
        s.run(7);
        is("15: force(0) of a loose line", s.force(0), 0);
        is("15: force(1) of a loose line", s.force(1), 1);
    }

    private void promise15ForceWithStiffGaps() {
        SpringSpaces s = even(5);
        s.least(0, 4);
        s.least(1, 5);
        s.least(2, 20);
        s.run(35);
        // 20 is stiff, then 5 (15 / 3 is 5: no more, no less): 5 for each of the others.
        is("15: force(0)", s.force(0), 5);
        is("15: force(1)", s.force(1), UNIT);
        s.run(34);
        // 14 / 3 is below 5, so 5 is stiff too: 9 / 2 for each of the others.
        is("15: force(0)", s.force(0), 9);
        is("15: force(1)", s.force(1), 2 * UNIT);
        s.run(31);
        // 4 is stiff too: 2 for the last.
        is("15: force(0)", s.force(0), 1);
        is("15: force(1)", s.force(1), UNIT / 2);
        s.run(29);
        is("15: force(0) of leasts alone", s.force(0), 0);
        is("15: force(1) of leasts alone", s.force(1), 1);
    }

    private void promise15ForceWithoutSomeSprings() {
        SpringSpaces s = new SpringSpaces();
        s.table(0, 1);
        s.column(0);
        s.column(1);
        s.column(3);
        s.column(5);
        s.least(0, 10);
        s.least(1, 8);
        // 15 / 2 is below 8, so the second is stiff too: 7 for the last.
        is("15: run(25)", s.run(25), 0);
        is("15: force(0)", s.force(0), 7);
        is("15: force(1)", s.force(1), UNIT);
        is("15: place(1)", s.place(1), 10);
        is("15: place(2)", s.place(2), 18);
    }

    private void promise16Width() {
        SpringSpaces s = even(4);
        is("16: width(9, 9)", s.width(9, 9), -3);
        s.line(0, 3, 10);
        is("16: width(0, 0)", s.width(0, 0), 10);
        is("16: width(0, 1)", s.width(0, 1), 3);
        is("16: width(3, 2)", s.width(3, 2), -1);
        is("16: width(-1, 0)", s.width(-1, 0), -1);
        is("16: width(2, 2)", s.width(2, 2), -2);
        is("16: width(2, -1)", s.width(2, -1), -2);
        s.least(1, 5);
        s.line(1, 3, 11);
        is("16: width(1, 0)", s.width(1, 0), 11);
        is("16: width(1, 1)", s.width(1, 1), 2);
        is("16: width(0, 0)", s.width(0, 0), -1);
        s.line(1, 3, 8);
        is("16: width(1, 0)", s.width(1, 0), 5);
        is("16: width(1, 1)", s.width(1, 1), 1);
        is("16: width(2, 0)", s.width(2, 0), 3);
        is("16: width(2, 1)", s.width(2, 1), 1);
        s.line(2, 3, 0);
        is("16: width(2, 0) of nothing", s.width(2, 0), 0);
        is("16: width(2, 1) of nothing", s.width(2, 1), 1);
    }

    private void promise17Settled() {
        SpringSpaces s = even(3);
        is("17: settled(0)", s.settled(0), -3);
        s.least(0, 3);
        s.item(2, 1, 0, 6);
        s.item(2, 2, 2, 0);
        s.run(500);
        is("17: settled(0)", s.settled(0), 3);
        is("17: settled(1)", s.settled(1), 8);
        is("17: settled(2)", s.settled(2), -1);
        is("17: settled(-1)", s.settled(-1), -1);
        is("17: the told least stays", s.least(1, 0), 0);
    }

    private void promise18Place() {
        SpringSpaces s = even(4);
        is("18: place(0)", s.place(0), -3);
        s.run(11);
        is("18: place(0)", s.place(0), 0);
        is("18: place(1)", s.place(1), 3);
        is("18: place(2)", s.place(2), 7);
        is("18: place(3)", s.place(3), 11);
        is("18: place(4)", s.place(4), -1);
        is("18: place(-1)", s.place(-1), -1);
        s.least(0, 6);
        s.run(11);
        is("18: place(1)", s.place(1), 6);
        is("18: place(2)", s.place(2), 8);
        is("18: place(3)", s.place(3), 11);
    }

    private void promise19Level() {
        SpringSpaces s = new SpringSpaces();
        s.table(1, 0);
        s.column(10);
        s.column(14);
        s.column(24);
        is("19: level(10)", s.level(10), -3);
        is("19: level(9)", s.level(9), -3);
        s.run(21);
        is("19: level(10)", s.level(10), 0);
        is("19: level(13)", s.level(13), 7);
        is("19: level(14)", s.level(14), 10);
        // 10.5 and 5 tenths of 10.5: the half is carried, 15.75
        is("19: level(19)", s.level(19), 15);
        // 10.5 and a tenth of 10.5: 11.55
        is("19: level(15)", s.level(15), 11);
        // 10.5 and 9 tenths of 10.5: 19.95
        is("19: level(23)", s.level(23), 19);
        // 10.5 and 6 tenths of 10.5: 16.8; 7 tenths: 17.85; 8 tenths: 18.9
        is("19: level(22)", s.level(22), 18);
        is("19: level(24)", s.level(24), 21);
        is("19: level(9)", s.level(9), -2);
        is("19: level(25)", s.level(25), -2);
        is("19: level(low)", s.level(LOW), -2);
        s.run(19);
        // 9.5 and 7 tenths of 9.5: 16.15, while 9 and 6.65 would be 15
        is("19: level(21)", s.level(21), 16);
        s.line(1, 2, 10);
        is("19: level(13) outside the line", s.level(13), -2);
        is("19: level(17)", s.level(17), 3);
    }

    private void promise19LevelOfLargestNumbers() {
        SpringSpaces s = new SpringSpaces();
        s.table(100, 100);
        for (int c = 0; c < 23; c++) {
            s.column(c * 1500 + c % 2);
        }
        s.column(100000);
        is("19: run(19999)", s.run(19999), 0);
        is("19: level(100000)", s.level(100000), 19999);
        int before = s.place(22);
        int after = s.level(99999);
        due.holds("19: level(99999) lies between", before < after && after == 19998);
    }

    private void needsAreRoundedUp() {
        SpringSpaces s = even(4);
        s.rod(0, 3, 10);
        s.run(100);
        isSettled("rounded up", s, 4, 4, 4);
        s.least(0, 8);
        s.run(100);
        isSettled("a least above the force stays", s, 8, 1, 1);
        s.least(1, 2);
        s.run(100);
        isSettled("met already", s, 8, 2, 0);
        s.least(1, 1);
        s.run(100);
        isSettled("one lacks", s, 8, 1, 1);
    }

    private void needsAsManyAsCanBe() {
        SpringSpaces s = even(24);
        for (int staff = 0; staff < 4; staff++) {
            for (int column = 0; column < 24; column++) {
                s.item(staff, column, staff, column == 22 ? 9 * staff : 0);
            }
        }
        for (int rod = 0; rod < 20; rod++) {
            is("rod " + rod, s.rod(22, 23, 100 + rod), rod);
        }
        s.run(0);
        is("settled(0)", s.settled(0), 3);
        is("settled(22)", s.settled(22), 119);
        is("drop(19)", s.drop(19), 19);
        is("natural(22, 23)", s.natural(22, 23), 118);
    }

    private void needsAreMetInOrder() {
        SpringSpaces s = even(3);
        s.rod(0, 1, 10);
        s.rod(0, 2, 12);
        s.run(0);
        isSettled("rods by numbers", s, 10, 2);
        s.drop(0);
        s.rod(0, 1, 10);
        s.run(0);
        isSettled("rods by numbers", s, 10, 6);

        SpringSpaces items = even(3);
        items.rod(0, 1, 10);
        items.item(3, 0, 0, 7);
        items.item(3, 2, 5, 0);
        items.run(0);
        isSettled("items before rods", items, 10, 6);
        items.item(2, 0, 0, 10);
        items.item(2, 1, 0, 0);
        items.run(0);
        isSettled("staves by numbers", items, 10, 2);
    }

    private void needsWithoutSprings() {
        SpringSpaces s = new SpringSpaces();
        s.table(0, 5);
        s.column(0);
        s.column(1);
        s.column(2);
        s.column(4);
        s.least(1, 3);
        s.rod(0, 2, 10);
        is("run(30)", s.run(30), 0);
        isSettled("the last gets what lacks", s, 0, 10, 0);
        s.rod(0, 3, 15);
        is("run(30)", s.run(30), 0);
        isSettled("the one with a spring gives way", s, 0, 10, 5);
        is("width(2, 0)", s.width(2, 0), 20);
        is("line(0, 2, 30)", s.line(0, 2, 30), 2);
    }

    private void needsOutsideTheLine() {
        SpringSpaces s = even(4);
        s.rod(0, 2, 40);
        s.rod(1, 3, 20);
        s.item(0, 0, 9, 9);
        s.item(0, 3, 90, 9);
        s.line(1, 3, 0);
        is("settled(1)", s.settled(1), 10);
        is("settled(2)", s.settled(2), 10);
        s.line(2, 3, 0);
        is("settled(2)", s.settled(2), 0);
        s.line(0, 2, 0);
        isSettled("rod within", s, 20, 20);
    }

    private void needsOfNeighboursOnly() {
        SpringSpaces s = even(3);
        s.item(0, 0, 400, 100);
        s.item(0, 1, 1, 2);
        s.item(0, 2, 300, 400);
        s.item(1, 0, 0, 40);
        s.item(2, 2, 40, 0);
        s.run(0);
        isSettled("neighbours", s, 101, 302);
        s.remove(0, 1);
        s.run(0);
        isSettled("neighbours over a gap between", s, 200, 200);
    }

    private void promise20Lines() {
        SpringSpaces s = even(1);
        is("20: no gap", s.lines(5), -3);
        is("20: no gap, outside", s.lines(-1), -2);
        s.column(1);
        is("20: lines(20001)", s.lines(20001), -2);
        is("20: lines(-1)", s.lines(-1), -2);
        is("20: none yet", s.begin(0), -3);
        beginAt("20: one gap", s, 0, 0, 1);
        beginAt("20: one gap", s, 20000, 0, 1);

        SpringSpaces t = blocks(4, 4, 4, 4, 4, 4);
        beginAt("20: by bars", t, 8, 0, 2, 4, 6);
        beginAt("20: each alone", t, 4, 0, 1, 2, 3, 4, 5, 6);
        // one line that is overfull by far costs less than several that are by a little
        beginAt("20: too wide", t, 3, 0, 6);
        t.bar(2, false);
        // 4 + 12 overfull would cost more than a line of 4 wasted
        beginAt("20: not at every column", t, 8, 0, 1, 3, 5, 6);
        t.run(8);
        is("20: over()", t.over(), 16);
        t.lines(12);
        is("20: the line at hand stays", t.over(), 16);
        is("20: and its last column", t.place(6), 24);
    }

    private void promise20Ties() {
        SpringSpaces few = blocks(10, 0);
        beginAt("20: the fewest lines", few, 10, 0, 2);
        SpringSpaces first = blocks(10, 0, 5);
        beginAt("20: the longest first line", first, 10, 0, 2, 3);
        SpringSpaces second = blocks(10, 10, 0, 3);
        beginAt("20: the longest second line", second, 10, 0, 1, 3, 4);
        SpringSpaces sums = blocks(3, 2, 3, 9);
        // 3 + 2 | 3 and 3 | 2 + 3 cost the same: 4 of extent 5
        beginAt("20: the same sums", sums, 5, 0, 2, 3, 4);
    }

    /** Gaps of at most 5000 by rods, without springs; bars only where a piece of them ends. */
    private static SpringSpaces pieces(int... widths) {
        SpringSpaces s = new SpringSpaces();
        s.table(0, 0);
        int column = s.column(0);
        for (int width : widths) {
            for (int rest = width; rest > 0; rest -= 5000) {
                s.column(column + 1);
                s.rod(column, column + 1, Math.min(rest, 5000));
                column++;
            }
            s.bar(column, true);
        }
        return s;
    }

    /** Here a longer first line is followed by more lines than a shorter one. */
    private void promise20CostsBeforeCountsBeforeLengths() {
        SpringSpaces same = pieces(20000, 10000, 1000, 5000, 10000);
        // 20000 | all the rest, or 20000 + 10000 | 1000 | 5000 | 10000
        beginAt("20: fewer lines though the first is shorter", same, 5000, 0, 4, 10);
        is("20: cost()", same.cost(), 2666000000L);
        SpringSpaces less = pieces(30000, 10000, 500, 30000);
        // 30000 | all the rest costs 3885250000
        beginAt("20: more lines that cost less", less, 5000, 0, 8, 9, 15);
        is("20: cost()", less.cost(), 3870250000L);
    }

    private void promise20AllBars() {
        int[] leasts = new int[23];
        for (int gap = 0; gap < leasts.length; gap++) {
            leasts[gap] = 1000;
        }
        SpringSpaces s = blocks(leasts);
        is("20: lines(1000)", s.lines(1000), 23);
        is("20: begin(22)", s.begin(22), 22);
        is("20: begin(23)", s.begin(23), 23);
        is("20: begin(24)", s.begin(24), -1);
        is("20: cost()", s.cost(), 0);
        is("20: lines(0)", s.lines(0), 1);
        is("20: cost()", s.cost(), 23000L * 23000L + 1000000000L);
        is("20: lines(20000)", s.lines(20000), 2);
        is("20: begin(1)", s.begin(1), 20);
        is("20: cost()", s.cost(), 0);
    }

    private void promise21Begin() {
        SpringSpaces s = blocks(6, 7, 5);
        is("21: begin(0)", s.begin(0), -3);
        is("21: begin(-1)", s.begin(-1), -3);
        s.lines(13);
        is("21: begin(0)", s.begin(0), 0);
        is("21: begin(1)", s.begin(1), 2);
        is("21: begin(2)", s.begin(2), 3);
        is("21: begin(3)", s.begin(3), -1);
        is("21: begin(-1)", s.begin(-1), -1);
        is("21: begin(low)", s.begin(LOW), -1);
        s.lines(100);
        is("21: the latest: begin(1)", s.begin(1), 3);
        is("21: the latest: begin(2)", s.begin(2), -1);
    }

    private void promise22Cost() {
        SpringSpaces s = blocks(6, 7, 5);
        is("22: cost()", s.cost(), -3);
        s.lines(15);
        is("22: 13 | 5", s.cost(), 4);
        s.lines(6);
        is("22: 6 | 7 | 5", s.cost(), 1000000001);
        s.lines(4);
        is("22: one line too wide", s.cost(), 1000000000 + 14 * 14);
        s.lines(-1);
        is("22: a refusal changes nothing", s.cost(), 1000000000 + 14 * 14);
        s.bar(1, false);
        is("22: changed", s.cost(), -3);
    }

    private void promise22CostOfLastLine() {
        SpringSpaces s = new SpringSpaces();
        s.column(0);
        s.column(1);
        is("22: natural", s.natural(0, 1), 10);
        s.lines(10);
        is("22: not above", s.cost(), 0);
        s.lines(9);
        is("22: natural above, leasts not", s.cost(), 1);
        s.least(0, 9);
        s.lines(9);
        is("22: leasts as wide", s.cost(), 1);
        s.least(0, 10);
        s.lines(9);
        is("22: leasts wider", s.cost(), 1000000001);
        s.lines(20000);
        is("22: far below", s.cost(), 0);
        s.bar(1, true);
        s.column(2);
        s.lines(30);
        is("22: one line of both", s.cost(), 0);
        s.lines(19);
        is("22: the first of two costs", s.cost(), 1);
    }

    private void promise22CostBeyondAnInt() {
        SpringSpaces s = even(21);
        for (int gap = 0; gap < 20; gap++) {
            s.rod(gap, gap + 1, 5000);
        }
        is("22: lines(0)", s.lines(0), 1);
        is("22: cost()", s.cost(), 100000L * 100000L + 1000000000L);
    }

    private void promise23Natural() {
        SpringSpaces s = new SpringSpaces();
        is("23: natural(0, 0)", s.natural(0, 0), -1);
        s.table(1, 1);
        s.column(0);
        s.column(3);
        s.column(10);
        s.column(11);
        // durations 3, 7, 1: 2.5, 3.75, 1
        is("23: natural(0, 1)", s.natural(0, 1), 2);
        is("23: natural(1, 2)", s.natural(1, 2), 3);
        is("23: natural(0, 3)", s.natural(0, 3), 6);
        s.least(1, 4);
        is("23: natural(0, 3)", s.natural(0, 3), 7);
        s.rod(1, 3, 9);
        // 9 - over 3.75 and 1: 7.1 and 1.9
        is("23: natural(1, 3)", s.natural(1, 3), 10);
        is("23: alone", s.natural(1, 2), 4);
        is("23: natural(0, 3)", s.natural(0, 3), 12);
        is("23: natural(0, 4)", s.natural(0, 4), -1);
        is("23: natural(-1, 2)", s.natural(-1, 2), -1);
        is("23: natural(2, 2)", s.natural(2, 2), -2);
        is("23: natural(3, 2)", s.natural(3, 2), -2);
    }
}
