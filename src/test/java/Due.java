/** Counts the answers that are not as due; the tests' only helper. */
final class Due {
    /** A call that is looked at for what it throws. */
    interface Call {
        Object answer();
    }

    private final String name;
    private int wrong;
    private int asked;

    Due(String name) {
        this.name = name;
    }

    void is(String what, Object got, Object due) {
        asked++;
        if (!due.equals(got)) {
            wrong++;
            System.out.println(name + ": " + what + " answered " + got + ", due is " + due);
        }
    }

    void fails(String what, Class<?> due, Call call) {
        Object got;
        try {
            got = call.answer();
        } catch (RuntimeException thrown) {
            got = thrown.getClass().getSimpleName();
        }
        is(what + " throws", got, due.getSimpleName());
    }

    void outOfBounds(String what, Call call) {
        fails(what, IndexOutOfBoundsException.class, call);
    }

    void badArgument(String what, Call call) {
        fails(what, IllegalArgumentException.class, call);
    }

    void badState(String what, Call call) {
        fails(what, IllegalStateException.class, call);
    }

    /** A new object whose row holds these codes. */
    static Reelrow with(int row, int... codes) {
        return fill(new Reelrow(), row, codes);
    }

    static Reelrow fill(Reelrow x, int row, int... codes) {
        for (int code : codes) {
            x.add(row, code, 0);
        }
        return x;
    }

    void done() {
        System.out.println(name + ": " + asked + " answers, " + wrong + " wrong");
        if (wrong > 0) {
            System.exit(1);
        }
    }
}
