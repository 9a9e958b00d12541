/**
 * A new object and rows of calls on it: "rod 0 3 150 = 0" with the answer that is due, or
 * "rod 0 3 150" where it is not looked at. What is tested is a sentence of the document.
 */
final class Rows {
    /** What an object answers to later calls is free, so a test that makes more is no test. */
    private static final int MOST_CALLS = 512;

    private final Due due;
    private final String sentence;
    private final SpringSpaces object = new SpringSpaces();
    private int calls = 0;

    Rows(Due due, String sentence) {
        this.due = due;
        this.sentence = sentence;
    }

    int calls() {
        return calls;
    }

    long answer(String call) {
        calls++;
        if (calls > MOST_CALLS) {
            throw new IllegalStateException(sentence + ": more than " + MOST_CALLS + " calls");
        }
        return Call.make(object, call);
    }

    Rows make(String... rows) {
        for (String row : rows) {
            int equals = row.indexOf('=');
            String call = equals < 0 ? row : row.substring(0, equals);
            long got = answer(call);
            if (equals >= 0) {
                long want = Long.parseLong(row.substring(equals + 1).trim());
                due.is("\"" + sentence + "\", call " + calls + ": " + call.trim(), got, want);
            }
        }
        return this;
    }

    /** Each of these calls has this answer. */
    Rows each(long want, String... calls) {
        for (String call : calls) {
            make(call + " = " + want);
        }
        return this;
    }

    /** Columns at these times on top of those that are there. */
    Rows columns(int... times) {
        for (int time : times) {
            make("column " + time);
        }
        return this;
    }

    /** Columns at the times 0, 1, .. with springs of one unit each. */
    Rows even(int columns) {
        make("table 1 0 = 1");
        for (int column = 0; column < columns; column++) {
            make("column " + column + " = " + column);
        }
        return this;
    }

    /** Gaps with these leasts and without springs, and a bar at each column. */
    Rows blocks(int... leasts) {
        even(leasts.length + 1);
        make("table 0 0 = 1");
        for (int gap = 0; gap < leasts.length; gap++) {
            make("least " + gap + " " + leasts[gap] + " = 0", "bar " + gap + " true = 0");
        }
        return make("bar " + leasts.length + " true = 0");
    }

    Rows settled(int first, int... leasts) {
        for (int i = 0; i < leasts.length; i++) {
            make("settled " + (first + i) + " = " + leasts[i]);
        }
        return this;
    }

    Rows places(int first, int... places) {
        for (int i = 0; i < places.length; i++) {
            make("place " + (first + i) + " = " + places[i]);
        }
        return this;
    }

    /** Broken into lines that begin at these columns; the last of them is the last column. */
    Rows broken(int extent, int... begins) {
        make("lines " + extent + " = " + (begins.length - 1));
        for (int k = 0; k < begins.length; k++) {
            make("begin " + k + " = " + begins[k]);
        }
        return make("begin " + begins.length + " = -1");
    }
}
