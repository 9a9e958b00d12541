import java.util.ArrayList;
import java.util.List;

/**
 * "REFUSALS are answers below 0, and change nothing; the first that fits": in each of several states
 * every call with every set of values at and around its bounds answers as the Model does, and where
 * it is refused, every answer afterwards is the one that an object without that call gives.
 */
public final class RefusalTests {
    private static final String[] OF_A_TABLE = {"low", "-1", "0", "100", "101", "high"};
    private static final String[] OF_A_LEAST = {"low", "-1", "0", "1000", "1001", "high"};
    private static final String[] OF_A_STAFF = {"low", "-1", "0", "3", "4", "high"};
    private static final String[] OF_A_SIDE = {"low", "-1", "0", "500", "501", "high"};
    private static final String[] OF_A_ROD_WIDTH = {"low", "-1", "0", "5000", "5001", "high"};
    private static final String[] OF_A_ROD = {"low", "-1", "0", "1", "2", "3", "19", "20", "high"};
    private static final String[] OF_AN_EXTENT = {"low", "-1", "0", "20000", "20001", "high"};
    private static final String[] OF_A_DURATION = {"low", "-1", "0", "1", "100000", "100001", "high"};
    private static final String[] OF_A_PART = {"low", "-1", "0", "1", "2", "high"};
    private static final String[] OF_A_LINE = {"low", "-1", "0", "1", "2", "3", "4", "23", "24", "25", "high"};
    private static final String[] OF_A_BAR = {"true", "false"};

    private static final int MOST_CALLS = 512;
    private static final int REFUSED_AT_ONCE = 60;

    private final Due due = new Due();
    private final List<String> refused = new ArrayList<>();
    private String state;
    private List<String> recipe;
    private List<Long> answers;
    private Model model;
    private int columns;
    private int firstTime;
    private int lastTime;

    public static void main(String[] args) {
        RefusalTests tests = new RefusalTests();
        tests.in("no column", 0, 0, 0);
        tests.in("one column", 1, 5, 5, "column 5");
        tests.in("two columns", 2, 0, 1, "column 0", "column 1");
        tests.in("all cleared", 0, 0, 0, rich("run 90", "lines 60", "clear"));
        tests.in("a line", 6, 10, 90, rich("run 200"));
        tests.in("a part of it, overfull", 6, 10, 90, rich("line 1 4 20"));
        tests.in("a loose line", 6, 10, 90, rich("table 0 0", "line 0 2 1000"));
        tests.in("lines", 6, 10, 90, rich("lines 60"));
        tests.in("a line and lines", 6, 10, 90, rich("lines 60", "line 0 5 150"));
        tests.in("all full", 24, 0, 46, full("run 700", "lines 200"));
        tests.in("the latest time", 2, 99999, 100000, "column 99999", "column 100000", "run 7", "lines 7");
        tests.due.end();
    }

    private static String[] rich(String... last) {
        List<String> calls = new ArrayList<>(List.of("column 10", "column 20", "column 30", "column 50",
                "column 51", "column 90", "least 0 7", "least 3 40", "item 0 0 5 9", "item 0 2 30 4",
                "item 0 5 0 500", "item 1 1 30 30", "item 3 0 1 1", "item 3 5 200 1", "remove 3 0",
                "rod 0 3 150", "rod 4 5 60", "rod 1 2 10", "drop 1", "bar 2 true", "bar 4 true", "bar 5 true"));
        calls.addAll(List.of(last));
        return calls.toArray(new String[0]);
    }

    private static String[] full(String... last) {
        List<String> calls = new ArrayList<>();
        for (int column = 0; column < 24; column++) {
            calls.add("column " + 2 * column);
            calls.add("item " + column % 4 + " " + column + " " + column + " 9");
        }
        for (int rod = 0; rod < 20; rod++) {
            calls.add("rod " + rod + " " + (rod + 3) + " " + 10 * rod);
        }
        for (int column = 3; column < 24; column += 4) {
            calls.add("bar " + column + " true");
            calls.add("least " + (column - 1) + " " + column);
        }
        calls.addAll(List.of(last));
        return calls.toArray(new String[0]);
    }

    private void in(String newState, int newColumns, int newFirstTime, int newLastTime, String... calls) {
        state = newState;
        columns = newColumns;
        firstTime = newFirstTime;
        lastTime = newLastTime;
        recipe = List.of(calls);
        answers = everyAnswer(made());
        int most = recipe.size() + REFUSED_AT_ONCE + answers.size();
        due.holds(state + ": no more calls than are promised", most <= MOST_CALLS);
        model = modelMade();
        everyCall();
        allRefusedOnOneObject();
    }

    private void everyCall() {
        calls("table", OF_A_TABLE, OF_A_TABLE);
        calls("column", times());
        calls("clear");
        calls("spring", OF_A_DURATION);
        calls("least", columnsAndAround(), OF_A_LEAST);
        calls("item", OF_A_STAFF, columnsAndAround(), OF_A_SIDE, OF_A_SIDE);
        calls("remove", OF_A_STAFF, columnsAndAround());
        calls("rod", columnsAndAround(), columnsAndAround(), OF_A_ROD_WIDTH);
        calls("drop", OF_A_ROD);
        calls("bar", columnsAndAround(), OF_A_BAR);
        calls("run", OF_AN_EXTENT);
        calls("line", columnsAndAround(), columnsAndAround(), OF_AN_EXTENT);
        calls("over");
        calls("force", OF_A_PART);
        calls("width", columnsAndAround(), OF_A_PART);
        calls("settled", columnsAndAround());
        calls("place", columnsAndAround());
        calls("level", times());
        calls("lines", OF_AN_EXTENT);
        calls("begin", OF_A_LINE);
        calls("cost");
        calls("natural", columnsAndAround(), columnsAndAround());
    }

    private String[] columnsAndAround() {
        return new String[] {"low", "-1", "0", "1", "" + (columns - 2), "" + (columns - 1), "" + columns, "24",
            "high"};
    }

    private String[] times() {
        return new String[] {"low", "-1", "0", "" + (firstTime - 1), "" + firstTime, "" + (lastTime - 1),
            "" + lastTime, "" + (lastTime + 1), "100000", "100001", "high"};
    }

    private void calls(String name, String[]... values) {
        int all = 1;
        for (String[] of : values) {
            all *= of.length;
        }
        for (int i = 0; i < all; i++) {
            StringBuilder call = new StringBuilder(name);
            int rest = i;
            for (String[] of : values) {
                call.append(' ').append(of[rest % of.length]);
                rest /= of.length;
            }
            look(call.toString());
        }
    }

    private SpringSpaces made() {
        SpringSpaces s = new SpringSpaces();
        for (String call : recipe) {
            due.holds(state + ": " + call + " is not refused", Call.make(s, call) >= 0);
        }
        return s;
    }

    private Model modelMade() {
        Model m = new Model();
        for (String call : recipe) {
            Call.make(m, call);
        }
        return m;
    }

    private void look(String call) {
        SpringSpaces s = made();
        long got = Call.make(s, call);
        long want = Call.make(model, call);
        due.is(state + ": " + call, got, want);
        if (want >= 0) {
            model = modelMade();
        } else {
            refused.add(call);
            same(call, everyAnswer(s));
        }
    }

    /** One after another, so that a change that only several refusals make is seen too. */
    private void allRefusedOnOneObject() {
        for (int from = 0; from < refused.size(); from += REFUSED_AT_ONCE) {
            SpringSpaces s = made();
            List<String> some = refused.subList(from, Math.min(refused.size(), from + REFUSED_AT_ONCE));
            for (String call : some) {
                Call.make(s, call);
            }
            same("each of " + some, everyAnswer(s));
        }
        refused.clear();
    }

    private void same(String call, List<Long> after) {
        due.holds(state + ": nothing is changed by " + call, after.equals(answers));
    }

    /** Questions first, then calls that tell by their answers what was held before them. */
    private static List<Long> everyAnswer(SpringSpaces s) {
        List<Long> all = new ArrayList<>();
        ask(all, s, "over", "force 0", "force 1", "cost", "spring 1", "spring 2", "spring 100000");
        for (int i = 0; i < 25; i++) {
            ask(all, s, "width " + i + " 0", "width " + i + " 1", "settled " + i, "place " + i, "begin " + i,
                    "natural " + i + " " + (i + 1));
        }
        ask(all, s, "level 0", "level 1", "level 15", "level 46", "level 89", "level 99999", "natural 0 5");
        for (int rod = 0; rod < 20; rod++) {
            ask(all, s, "drop " + rod);
        }
        for (int i = 0; i < 24; i++) {
            ask(all, s, "least " + i + " 0", "bar " + i + " false");
        }
        for (int i = 0; i < 24; i += i < 6 || i > 20 ? 1 : 5) {
            ask(all, s, "remove 0 " + i, "remove 1 " + i, "remove 2 " + i, "remove 3 " + i);
        }
        ask(all, s, "column 99990", "column 100000", "clear", "column 0", "column 1", "rod 0 1 5");
        return all;
    }

    private static void ask(List<Long> all, SpringSpaces s, String... calls) {
        for (String call : calls) {
            all.add(Call.make(s, call));
        }
    }
}
