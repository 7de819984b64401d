import java.util.function.Supplier;

/** Objects that are made the same way each time, and all that can be told of one. */
final class Stage {
    /** A call on an object that is given to it. */
    interface Call {
        Object on(Reelrow x);
    }

    static final int CELLS = 6;

    private Stage() {
    }

    private static Reelrow rows() {
        Reelrow x = Due.fill(new Reelrow(), 2, 10, 25, -1, 21, 999, 0);
        return Due.fill(Due.fill(x, 0, 29, 11), 1, -1, 20, 5);
    }

    /** Row 2 has six cells, a cursor of each kind that has gone over a cell, and both views; row 3 is empty. */
    static Reelrow busy() {
        return occupy(rows());
    }

    /** The same with 30 cells in row 2. */
    static Reelrow full() {
        Reelrow x = rows();
        x.setSize(2, 30);
        return occupy(x);
    }

    private static Reelrow occupy(Reelrow x) {
        x.open(0, 2, 0, 0);
        x.go(0, false);
        x.go(0, false);
        x.open(1, 2, 1, 3);
        x.go(1, true);
        x.open(2, 2, 2, 0);
        x.go(2, false);
        x.view(0, 2, 1, 5);
        x.inner(1, 3);
        return x;
    }

    /** As busy(), but each cursor is of the kind that changes. */
    static Reelrow changing() {
        return allChange(busy());
    }

    static Reelrow fullAndChanging() {
        return allChange(full());
    }

    private static Reelrow allChange(Reelrow x) {
        for (int cursor = 0; cursor <= 2; cursor++) {
            x.open(cursor, 2, 1, cursor + 1);
            x.go(cursor, cursor == 1);
        }
        return x;
    }

    /** What an object answers, or the name of what it throws. */
    static String answer(Reelrow x, Call call) {
        try {
            return String.valueOf(call.on(x));
        } catch (RuntimeException thrown) {
            return thrown.getClass().getSimpleName();
        }
    }

    /** What can be told without a change. */
    static String seen(Reelrow x) {
        StringBuilder text = new StringBuilder();
        for (int i = 0; i <= 3; i++) {
            int n = i;
            note(text, x, y -> y.text(n, true), y -> y.text(n, false), y -> y.count(n, 2));
            note(text, x, y -> y.has(n, false), y -> y.has(n, true), y -> y.place(n, false), y -> y.place(n, true));
            note(text, x, y -> y.viewText(n), y -> y.viewCount(n, 2), y -> y.viewCount(n, 3));
        }
        note(text, x, Reelrow::digest, Reelrow::isSound);
        return text.toString();
    }

    /**
     * All that can be told, and that spoils the object: which cell each cursor went over last shows by what it changes
     * or takes out; what view 1 is one of shows by what it loses.
     */
    static String told(Reelrow x, boolean isByViews) {
        StringBuilder text = new StringBuilder(seen(x));
        for (int i = 0; i <= 2; i++) {
            int cursor = i;
            note(text, x, y -> y.setBy(cursor, 700 + cursor), y -> y.text(2, true));
        }
        if (isByViews) {
            note(text, x, y -> y.viewAdd(1, 0, 800), Stage::seen, y -> y.viewClear(1), Stage::seen);
        } else {
            note(text, x, y -> y.removeBy(0), Stage::seen, y -> y.removeBy(1), Stage::seen);
        }
        note(text, x, Reelrow::knock);
        return text.toString();
    }

    private static void note(StringBuilder text, Reelrow x, Call... calls) {
        for (Call call : calls) {
            text.append(answer(x, call)).append('\n');
        }
    }

    /** Whether two calls on objects of one make leave them alike. */
    static void leaveAlike(Due due, String what, Supplier<Reelrow> stage, Call call, Call other) {
        for (boolean isByViews : new boolean[] {false, true}) {
            Reelrow x = stage.get();
            Reelrow y = stage.get();
            answer(x, call);
            answer(y, other);
            due.is(what, told(x, isByViews), told(y, isByViews));
        }
    }

    static void changesNothing(Due due, String what, Supplier<Reelrow> stage, Call call) {
        leaveAlike(due, what + " changes nothing", stage, call, y -> 0);
    }
}
