import java.lang.reflect.InvocationTargetException;
import java.lang.reflect.Method;
import java.lang.reflect.Modifier;
import java.util.Arrays;
import java.util.Set;
import java.util.TreeSet;
import java.util.function.Supplier;

/**
 * Each Throws line of promises 2 to 47: the least and the greatest argument that is let, the ones next to them, which
 * of several exceptions is thrown, and that a call that throws changes nothing.
 */
public final class BoundTest {
    private static final Due DUE = new Due("bounds");

    /** What an argument may be, and what is thrown otherwise. */
    private record Bound(int lowest, int highest, Class<?> thrown) {
        boolean isFree() {
            return thrown == null;
        }

        boolean isIndex() {
            return thrown == IndexOutOfBoundsException.class;
        }
    }

    private static final Bound FREE = new Bound(0, 0, null);
    private static final Bound ROW = index(0, 3);
    private static final Bound STACK = index(2, 3);
    private static final Bound CURSOR = index(0, 2);
    private static final Bound VIEW = index(0, 1);
    private static final Bound PLACE = argument(0, 40);
    private static final Bound PLACE_OR_NONE = argument(-1, 40);
    private static final Bound CODE = argument(-1, 999);
    private static final Bound HOW = argument(0, 1);
    private static final Bound HOW_OF_THREE = argument(0, 2);
    private static final Bound WHAT = argument(0, 3);

    private static final Set<String> APART = Set.of("addAll", "addAllAt", "removeAll", "retainAll");
    private static final Set<String> BOUNDED = new TreeSet<>();

    public static void main(String[] args) {
        rowCalls();
        askingCalls();
        cursorCalls();
        viewCalls();
        everyMethodIsHere();
        fullRows();
        notThere();
        ofTheWrongKind();
        oneRow();
        tooFewPlaces();
        DUE.done();
    }

    private static Bound index(int lowest, int highest) {
        return new Bound(lowest, highest, IndexOutOfBoundsException.class);
    }

    private static Bound argument(int lowest, int highest) {
        return new Bound(lowest, highest, IllegalArgumentException.class);
    }

    private static Object[] of(Object... values) {
        return values;
    }

    private static void rowCalls() {
        bounds("2 add", Stage::busy, of(2, 5, 0), ROW, CODE, HOW);
        bounds("3 insert", Stage::busy, of(2, 1, 5, 0), ROW, PLACE, CODE, HOW);
        bounds("4 addAll", Stage::busy, of(2, 0), ROW, ROW);
        bounds("5 addAllAt", Stage::busy, of(2, 1, 0), ROW, PLACE, ROW);
        bounds("6 set", Stage::busy, of(2, 1, 5), ROW, PLACE, CODE);
        bounds("7 setElementAt", Stage::busy, of(2, 5, 1), ROW, CODE, PLACE);
        bounds("8 remove", Stage::busy, of(2, 1), ROW, PLACE);
        bounds("9 removeThing", Stage::busy, of(2, 20, 0), ROW, CODE, HOW);
        bounds("10 removeElementAt", Stage::busy, of(2, 1), ROW, PLACE);
        bounds("11 removeAll", Stage::busy, of(2, 0), ROW, ROW);
        bounds("12 retainAll", Stage::busy, of(2, 0), ROW, ROW);
        bounds("13 wipe", Stage::busy, of(2, 0), ROW, HOW);
        bounds("14 setSize", Stage::busy, of(2, 3), ROW, argument(0, 30));
        bounds("15 room", Stage::busy, of(2, 3), ROW, PLACE_OR_NONE);
        bounds("16 sort", Stage::busy, of(2, true), ROW, FREE);
        bounds("17 push", Stage::busy, of(2, 5), STACK, CODE);
        bounds("18 pop", Stage::busy, of(2), STACK);
    }

    private static void askingCalls() {
        bounds("19 peek", Stage::busy, of(2), STACK);
        bounds("20 search", Stage::busy, of(2, 20), STACK, CODE);
        bounds("21 at", Stage::busy, of(2, 1, 0), ROW, PLACE, HOW);
        bounds("22 end", Stage::busy, of(2, true), ROW, FREE);
        bounds("23 find", Stage::busy, of(2, 20, 0), ROW, CODE, HOW_OF_THREE);
        bounds("24 findFrom", Stage::busy, of(2, 20, 1), ROW, CODE, PLACE);
        bounds("25 findTo", Stage::busy, of(2, 20, 1), ROW, CODE, PLACE_OR_NONE);
        bounds("26 containsAll", Stage::busy, of(2, 0), ROW, ROW);
        bounds("27 areEqual", Stage::busy, of(2, 0), ROW, ROW);
        bounds("28 count", Stage::busy, of(2, 0), ROW, WHAT);
        bounds("29 text", Stage::busy, of(2, true), ROW, FREE);
        bounds("30 copyInto", Stage::busy, of(2, 10), ROW, argument(Stage.CELLS, 40));
        bounds("30 copyInto", Stage::busy, of(3, 10), ROW, argument(0, 40));
        bounds("30 copyInto", Stage::full, of(2, 30), ROW, argument(30, 40));
    }

    private static void cursorCalls() {
        bounds("31 open", Stage::busy, of(1, 2, 1, 1), CURSOR, ROW, argument(0, 2), PLACE);
        bounds("31 open", Stage::busy, of(0, 2, 0, 1), CURSOR, ROW, argument(0, 2), PLACE);
        bounds("31 open", Stage::busy, of(2, 2, 2, 1), CURSOR, ROW, argument(0, 2), PLACE);
        bounds("32 has", Stage::busy, of(0, false), CURSOR, FREE);
        bounds("32 has", Stage::changing, of(0, true), CURSOR, FREE);
        bounds("33 go", Stage::busy, of(0, false), CURSOR, FREE);
        bounds("33 go", Stage::changing, of(0, true), CURSOR, FREE);
        bounds("34 place", Stage::changing, of(0, false), CURSOR, FREE);
        bounds("34 place", Stage::changing, of(0, true), CURSOR, FREE);
        bounds("35 setBy", Stage::changing, of(1, 5), CURSOR, CODE);
        bounds("36 addBy", Stage::changing, of(1, 5), CURSOR, CODE);
        bounds("37 removeBy", Stage::changing, of(1), CURSOR);
    }

    private static void viewCalls() {
        bounds("38 view", Stage::busy, of(0, 2, 1, 3), VIEW, ROW, PLACE, PLACE);
        bounds("38 view", Stage::busy, of(1, 2, 1, 3), VIEW, ROW, PLACE, PLACE);
        bounds("39 inner", Stage::busy, of(1, 3), PLACE, PLACE);
        bounds("40 viewCount", Stage::busy, of(0, 0), VIEW, WHAT);
        bounds("41 viewText", Stage::busy, of(0), VIEW);
        bounds("42 viewGet", Stage::busy, of(0, 1), VIEW, PLACE);
        bounds("43 viewSet", Stage::busy, of(0, 1, 5), VIEW, PLACE, CODE);
        bounds("44 viewAdd", Stage::busy, of(0, 1, 5), VIEW, PLACE, CODE);
        bounds("45 viewRemove", Stage::busy, of(0, 1), VIEW, PLACE);
        bounds("46 viewFind", Stage::busy, of(0, 20, 0), VIEW, CODE, HOW_OF_THREE);
        bounds("47 viewClear", Stage::busy, of(0), VIEW);
    }

    private static void everyMethodIsHere() {
        Set<String> due = new TreeSet<>();
        for (Method method : Reelrow.class.getDeclaredMethods()) {
            if (Modifier.isPublic(method.getModifiers()) && method.getParameterCount() > 0) {
                due.add(method.getName());
            }
        }
        DUE.is("methods whose bounds are looked at", BOUNDED.toString(), due.toString());
    }

    private static void bounds(String what, Supplier<Reelrow> stage, Object[] base, Bound... bounds) {
        Method method = method(what);
        BOUNDED.add(method.getName());
        DUE.is(what + " has so many bounds", bounds.length, method.getParameterCount());
        for (int i = 0; i < bounds.length; i++) {
            if (!bounds[i].isFree()) {
                letIsLet(what, stage, base, i, bounds[i]);
                beyondIsRefused(what, stage, base, i, bounds[i]);
                firstIsThrown(what, stage, base, i, bounds);
            }
        }
    }

    private static Method method(String what) {
        String name = what.substring(what.indexOf(' ') + 1);
        for (Method method : Reelrow.class.getDeclaredMethods()) {
            if (method.getName().equals(name)) {
                return method;
            }
        }
        throw new IllegalStateException(name);
    }

    private static Stage.Call call(String what, Object[] values) {
        return x -> {
            try {
                return method(what).invoke(x, values);
            } catch (InvocationTargetException thrown) {
                throw (RuntimeException) thrown.getCause();
            } catch (IllegalAccessException unseen) {
                throw new AssertionError(unseen);
            }
        };
    }

    private static Object[] with(Object[] base, int i, int value) {
        Object[] values = base.clone();
        values[i] = value;
        return values;
    }

    private static boolean isOneRow(String what, Object[] values) {
        return APART.contains(method(what).getName()) && values[0].equals(values[values.length - 1]);
    }

    private static void letIsLet(String what, Supplier<Reelrow> stage, Object[] base, int i, Bound bound) {
        for (int value : new int[] {bound.lowest, bound.lowest + 1, bound.highest - 1, bound.highest}) {
            Object[] values = with(base, i, value);
            if (!isOneRow(what, values)) {
                String answer = Stage.answer(stage.get(), call(what, values));
                DUE.is(what + Arrays.toString(values) + " is let, " + answer, answer.endsWith("Exception"), false);
            }
        }
    }

    private static int[] beyond(Bound bound) {
        return new int[] {bound.lowest - 1, bound.highest + 1, bound.lowest - 8, bound.highest + 1000, Integer.MIN_VALUE,
            Integer.MAX_VALUE};
    }

    private static void beyondIsRefused(String what, Supplier<Reelrow> stage, Object[] base, int i, Bound bound) {
        for (int value : beyond(bound)) {
            refused(what, bound.thrown, stage, with(base, i, value));
        }
    }

    private static void refused(String what, Class<?> thrown, Supplier<Reelrow> stage, Object[] values) {
        String whole = what + Arrays.toString(values);
        DUE.is(whole + " throws", Stage.answer(stage.get(), call(what, values)), thrown.getSimpleName());
        Stage.changesNothing(DUE, whole, stage, call(what, values));
    }

    private static void firstIsThrown(String what, Supplier<Reelrow> stage, Object[] base, int i, Bound[] bounds) {
        for (int j = 0; j < bounds.length; j++) {
            if (j != i && !bounds[j].isFree() && (bounds[i].isIndex() || !bounds[j].isIndex())) {
                for (int value : new int[] {bounds[j].lowest - 1, bounds[j].highest + 1}) {
                    refused(what, bounds[i].thrown, stage, with(with(base, i, bounds[i].highest + 1), j, value));
                    refused(what, bounds[i].thrown, stage, with(with(base, i, bounds[i].lowest - 1), j, value));
                }
            }
        }
    }

    /** A call that its state refuses, whatever the arguments that are let, and what goes ahead of that. */
    private static void refusing(String what, Supplier<Reelrow> stage, Object[] base, Bound... bounds) {
        refused(what, IllegalStateException.class, stage, base);
        for (int i = 0; i < bounds.length; i++) {
            if (!bounds[i].isFree()) {
                refused(what, bounds[i].thrown, stage, with(base, i, bounds[i].lowest - 1));
                refused(what, bounds[i].thrown, stage, with(base, i, bounds[i].highest + 1));
            }
            if (!bounds[i].isFree() && !bounds[i].isIndex()) {
                refused(what, IllegalStateException.class, stage, with(base, i, bounds[i].lowest));
                refused(what, IllegalStateException.class, stage, with(base, i, bounds[i].highest));
            }
        }
    }

    // The place 40 is among those that are tried, so that the exception is seen to go ahead of -9.
    private static void fullRows() {
        refusing("2 add", Stage::full, of(2, 5, 0), ROW, CODE, HOW);
        refusing("3 insert", Stage::full, of(2, 1, 5, 0), ROW, PLACE, CODE, HOW);
        refusing("3 insert", Stage::full, of(2, 30, 5, 1), ROW, PLACE, CODE, HOW);
        refusing("4 addAll", Stage::full, of(2, 0), ROW, ROW);
        refusing("5 addAllAt", Stage::full, of(2, 1, 0), ROW, PLACE, ROW);
        refusing("17 push", Stage::full, of(2, 5), STACK, CODE);
        refusing("36 addBy", Stage::fullAndChanging, of(1, 5), CURSOR, CODE);
        refusing("44 viewAdd", Stage::full, of(0, 1, 5), VIEW, PLACE, CODE);
        refusing("44 viewAdd", Stage::full, of(1, 1, 5), VIEW, PLACE, CODE);
    }

    private static Reelrow lost() {
        Reelrow x = Stage.busy();
        x.room(2, 0);
        return x;
    }

    private static void notThere() {
        notThere(Reelrow::new);
        notThere(BoundTest::lost);
    }

    private static void notThere(Supplier<Reelrow> stage) {
        for (int cursor = 0; cursor <= 2; cursor++) {
            refusing("32 has", stage, of(cursor, false), CURSOR, FREE);
            refusing("32 has", stage, of(cursor, true), CURSOR, FREE);
            refusing("33 go", stage, of(cursor, false), CURSOR, FREE);
            refusing("33 go", stage, of(cursor, true), CURSOR, FREE);
            refusing("34 place", stage, of(cursor, false), CURSOR, FREE);
            refusing("34 place", stage, of(cursor, true), CURSOR, FREE);
            refusing("35 setBy", stage, of(cursor, 5), CURSOR, CODE);
            refusing("36 addBy", stage, of(cursor, 5), CURSOR, CODE);
            refusing("37 removeBy", stage, of(cursor), CURSOR);
        }
        refusing("39 inner", stage, of(0, 0), PLACE, PLACE);
        refusing("39 inner", stage, of(1, 0), PLACE, PLACE);
        for (int view = 0; view <= 1; view++) {
            refusing("40 viewCount", stage, of(view, 0), VIEW, WHAT);
            refusing("41 viewText", stage, of(view), VIEW);
            refusing("42 viewGet", stage, of(view, 0), VIEW, PLACE);
            refusing("43 viewSet", stage, of(view, 0, 5), VIEW, PLACE, CODE);
            refusing("44 viewAdd", stage, of(view, 0, 5), VIEW, PLACE, CODE);
            refusing("45 viewRemove", stage, of(view, 0), VIEW, PLACE);
            refusing("46 viewFind", stage, of(view, 5, 0), VIEW, CODE, HOW_OF_THREE);
            refusing("47 viewClear", stage, of(view), VIEW);
        }
    }

    // In busy() cursor 0 takes out, cursor 2 goes on alone, and both have gone over a cell.
    private static void ofTheWrongKind() {
        for (int cursor = 0; cursor <= 2; cursor += 2) {
            refusing("32 has", Stage::busy, of(cursor, true), CURSOR, FREE);
            refusing("33 go", Stage::busy, of(cursor, true), CURSOR, FREE);
            refusing("34 place", Stage::busy, of(cursor, false), CURSOR, FREE);
            refusing("34 place", Stage::busy, of(cursor, true), CURSOR, FREE);
            refusing("35 setBy", Stage::busy, of(cursor, 5), CURSOR, CODE);
            refusing("36 addBy", Stage::busy, of(cursor, 5), CURSOR, CODE);
            refusing("36 addBy", Stage::full, of(cursor, 5), CURSOR, CODE);
        }
        refusing("37 removeBy", Stage::busy, of(2), CURSOR);
    }

    private static void oneRow() {
        for (int row = 0; row <= 3; row++) {
            Class<?> thrown = IllegalArgumentException.class;
            refused("4 addAll", thrown, Stage::busy, of(row, row));
            refused("4 addAll", thrown, Stage::full, of(row, row));
            refused("5 addAllAt", thrown, Stage::busy, of(row, 0, row));
            refused("5 addAllAt", thrown, Stage::busy, of(row, 41, row));
            refused("5 addAllAt", thrown, Stage::full, of(row, 40, row));
            refused("11 removeAll", thrown, Stage::busy, of(row, row));
            refused("12 retainAll", thrown, Stage::busy, of(row, row));
        }
        for (int row : new int[] {-1, 4}) {
            Class<?> thrown = IndexOutOfBoundsException.class;
            refused("4 addAll", thrown, Stage::busy, of(row, row));
            refused("5 addAllAt", thrown, Stage::busy, of(row, 41, row));
            refused("11 removeAll", thrown, Stage::busy, of(row, row));
            refused("12 retainAll", thrown, Stage::busy, of(row, row));
            refused("26 containsAll", thrown, Stage::busy, of(row, row));
            refused("27 areEqual", thrown, Stage::busy, of(row, row));
        }
    }

    // Row 0 has two cells, row 1 three: each size but the last one is too few.
    private static void tooFewPlaces() {
        for (int size = 0; size <= 3; size++) {
            int places = size;
            String due = places < 3 ? "IllegalArgumentException" : "-1 20 5";
            DUE.is("30 three cells into " + places, Stage.answer(Stage.busy(), x -> x.copyInto(1, places)), due);
        }
    }
}
