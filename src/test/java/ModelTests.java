/** Long mixed runs of calls, each answer compared with that of the plain Model. */
public final class ModelTests {
    private static final int RUNS = 400;
    private static final int CALLS = 512;
    private static final int BROKEN_RUNS = 4000;
    private static final int[] WRONG = {-1, Integer.MIN_VALUE, Integer.MAX_VALUE, 24, 100001, 20001};

    private final Due due = new Due();
    private long state;
    private SpringSpaces real;
    private Model model;
    private String where;
    private int time;

    public static void main(String[] args) {
        ModelTests tests = new ModelTests();
        for (int run = 0; run < RUNS && !tests.due.anyWrong(); run++) {
            tests.mixedRun(run);
        }
        for (int run = 0; run < BROKEN_RUNS && !tests.due.anyWrong(); run++) {
            tests.brokenRun(run);
        }
        tests.due.end();
    }

    /** The same numbers each time, so that a failure can be seen again. */
    private int below(int bound) {
        state = state * 6364136223846793005L + 1442695040888963407L;
        return (int) Long.remainderUnsigned(state >>> 20, bound);
    }

    private boolean seldom() {
        return below(25) == 0;
    }

    private int upTo(int high) {
        if (seldom()) {
            return WRONG[below(WRONG.length)];
        }
        return seldom() ? high + 1 : below(8) == 0 ? high : below(high + 1);
    }

    private int small(int usual, int high) {
        return below(4) == 0 ? upTo(high) : upTo(usual);
    }

    private void mixedRun(int run) {
        state = run * 7919L + 17;
        real = new SpringSpaces();
        model = new Model();
        time = 0;
        int kind = run % 4;
        if (kind == 1) {
            is("table(0, 3)", real.table(0, 3), model.table(0, 3));
        } else if (kind == 2) {
            is("table(100, 100)", real.table(100, 100), model.table(100, 100));
        }
        int columns = 2 + below(23);
        for (int c = 0; c < columns; c++) {
            addColumn(kind);
        }
        for (int call = columns + 2; call < CALLS; call++) {
            where = "run " + run + ", call " + call + ": ";
            if (below(4) == 0) {
                change(kind);
            } else {
                ask();
            }
        }
    }

    /** Small numbers and many bars, so that several breakings often have the same costs. */
    private void brokenRun(int run) {
        state = run * 104729L + 5;
        where = "broken run " + run + ": ";
        real = new SpringSpaces();
        model = new Model();
        int base = below(8);
        is("table", real.table(base, 0), model.table(base, 0));
        int columns = 3 + below(6);
        for (int c = 0; c < columns; c++) {
            is("column", real.column(c), model.column(c));
        }
        for (int c = 0; c < columns; c++) {
            int width = below(4) == 0 ? below(12) : below(4);
            boolean bar = below(6) > 0;
            is("least", real.least(c, width), model.least(c, width));
            is("bar", real.bar(c, bar), model.bar(c, bar));
        }
        for (int extent = 0; extent < 20; extent++) {
            int lines = model.lines(extent);
            is("lines(" + extent + ")", real.lines(extent), lines);
            is("cost()", real.cost(), model.cost());
            for (int k = 0; k <= lines; k++) {
                is("begin(" + k + ") of " + extent, real.begin(k), model.begin(k));
            }
        }
    }

    private void is(String call, long got, long want) {
        due.is((where == null ? "" : where) + call, got, want);
    }

    private void addColumn(int kind) {
        int step = kind == 2 ? 1 + below(8000) : kind == 1 ? 1 + below(3) : 1 + below(40);
        time = below(12) == 0 ? upTo(100000) : time + step;
        int was = time;
        int got = real.column(time);
        is("column(" + was + ")", got, model.column(was));
        if (got < 0 && time > 100000 || time < 0) {
            time = 0;
        }
    }

    private int aColumn() {
        return below(30) == 0 ? WRONG[below(WRONG.length)] : below(below(5) == 0 ? 26 : 14) - (seldom() ? 1 : 0);
    }

    private void change(int kind) {
        int a = aColumn();
        int b = aColumn();
        switch (below(14)) {
            case 0 -> {
                if (below(6) == 0) {
                    int base = small(10, 100);
                    int more = small(6, 100);
                    is("table(" + base + ", " + more + ")", real.table(base, more), model.table(base, more));
                }
            }
            case 1, 2 -> addColumn(kind);
            case 3 -> {
                if (below(8) == 0) {
                    is("clear()", real.clear(), model.clear());
                    time = 0;
                    for (int c = below(25); c > 0; c--) {
                        addColumn(kind);
                    }
                }
            }
            case 4, 5 -> {
                int width = small(40, 1000);
                is("least(" + a + ", " + width + ")", real.least(a, width), model.least(a, width));
            }
            case 6, 7, 8 -> {
                int staff = upTo(3);
                int left = small(30, 500);
                int right = small(30, 500);
                is("item(" + staff + ", " + a + ", " + left + ", " + right + ")",
                        real.item(staff, a, left, right), model.item(staff, a, left, right));
            }
            case 9 -> {
                int staff = upTo(3);
                is("remove(" + staff + ", " + a + ")", real.remove(staff, a), model.remove(staff, a));
            }
            case 10 -> {
                int width = small(200, 5000);
                is("rod(" + a + ", " + b + ", " + width + ")", real.rod(a, b, width), model.rod(a, b, width));
            }
            case 11 -> {
                int rod = upTo(20);
                is("drop(" + rod + ")", real.drop(rod), model.drop(rod));
            }
            default -> {
                // Few enough bars for the model to try every set of them.
                boolean is = below(5) < 2;
                is("bar(" + a + ", " + is + ")", real.bar(a, is), model.bar(a, is));
            }
        }
    }

    private void ask() {
        int a = aColumn();
        int b = aColumn();
        int extent = small(700, 20000);
        int part = upTo(1);
        switch (below(12)) {
            case 0 -> is("run(" + extent + ")", real.run(extent), model.run(extent));
            case 1 -> is("line(" + a + ", " + b + ", " + extent + ")",
                    real.line(a, b, extent), model.line(a, b, extent));
            case 2 -> is("over()", real.over(), model.over());
            case 3 -> is("force(" + part + ")", real.force(part), model.force(part));
            case 4 -> is("width(" + a + ", " + part + ")", real.width(a, part), model.width(a, part));
            case 5 -> is("settled(" + a + ")", real.settled(a), model.settled(a));
            case 6 -> is("place(" + a + ")", real.place(a), model.place(a));
            case 7 -> {
                int when = below(3) == 0 ? upTo(100000) : upTo(Math.max(1, time));
                is("level(" + when + ")", real.level(when), model.level(when));
            }
            case 8 -> is("lines(" + extent + ")", real.lines(extent), model.lines(extent));
            case 9 -> {
                int k = small(4, 24);
                is("begin(" + k + ")", real.begin(k), model.begin(k));
            }
            case 10 -> {
                is("cost()", real.cost(), model.cost());
                int duration = small(64, 100000);
                is("spring(" + duration + ")", real.spring(duration), model.spring(duration));
            }
            default -> is("natural(" + a + ", " + b + ")", real.natural(a, b), model.natural(a, b));
        }
    }
}
