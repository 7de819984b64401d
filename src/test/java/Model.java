import java.util.Arrays;
import java.util.Collections;
import java.util.Comparator;
import java.util.Enumeration;
import java.util.Iterator;
import java.util.List;
import java.util.ListIterator;
import java.util.Stack;
import java.util.Vector;

/** The document once more, over Java's own lists, iterators and sublists: what Reelrow answers is held against it. */
public final class Model {
    /** Two are the same if their numbers are; NOTHING is null. */
    private static final class Thing {
        private final int number;
        private final int mark;

        Thing(int code) {
            number = code / 10;
            mark = code % 10;
        }

        @Override
        public boolean equals(Object other) {
            return other instanceof Thing && ((Thing) other).number == number;
        }

        @Override
        public int hashCode() {
            return number;
        }

        @Override
        public String toString() {
            return number + "/" + mark;
        }
    }

    private static final Comparator<Thing> UP = Comparator.nullsFirst(Comparator.comparingInt(thing -> thing.number));

    private final List<Vector<Thing>> rows = new Vector<>();
    // Of a cursor one of the two is there; both are null if it is not opened or lost.
    private final List<Iterator<Thing>> iterators = new Vector<>(Collections.nCopies(3, null));
    private final List<Enumeration<Thing>> enumerations = new Vector<>(Collections.nCopies(3, null));
    private final int[] cursorRows = new int[3];
    private final List<List<Thing>> views = new Vector<>(Collections.nCopies(2, null));
    private final int[] viewRows = new int[2];
    private boolean isInner;
    private int refused;

    public Model() {
        rows.add(new Vector<>());
        rows.add(new Vector<>());
        rows.add(new Stack<>());
        rows.add(new Stack<>());
    }

    private static Thing thing(int code) {
        return code == -1 ? null : new Thing(code);
    }

    private static int code(Thing thing) {
        return thing == null ? -1 : thing.number * 10 + thing.mark;
    }

    private static void index(int number, int lowest, int highest) {
        if (number < lowest || number > highest) {
            throw new IndexOutOfBoundsException();
        }
    }

    private static void argument(int number, int lowest, int highest) {
        if (number < lowest || number > highest) {
            throw new IllegalArgumentException();
        }
    }

    private static void state(boolean isSo) {
        if (!isSo) {
            throw new IllegalStateException();
        }
    }

    private static void codeArgument(int code) {
        argument(code, -1, 999);
    }

    private static void apart(int row, int other) {
        if (row == other) {
            throw new IllegalArgumentException();
        }
    }

    private Vector<Thing> row(int row) {
        index(row, 0, 3);
        return rows.get(row);
    }

    private Stack<Thing> stack(int row) {
        index(row, 2, 3);
        return (Stack<Thing>) rows.get(row);
    }

    private void cuts(int row, int cursor, int view) {
        for (int i = 0; i < 3; i++) {
            if (i != cursor && cursorRows[i] == row) {
                iterators.set(i, null);
                enumerations.set(i, null);
            }
        }
        boolean areBothSpared = view == 1 && isInner;
        for (int i = 0; i < 2; i++) {
            if (i != view && viewRows[i] == row && !areBothSpared) {
                views.set(i, null);
            }
        }
    }

    private void cuts(int row) {
        cuts(row, -1, -1);
    }

    public int add(int row, int code, int how) {
        Vector<Thing> list = row(row);
        codeArgument(code);
        argument(how, 0, 1);
        state(list.size() < 30);
        cuts(row);
        if (how == 0) {
            list.add(thing(code));
        } else {
            list.addElement(thing(code));
        }
        return list.size();
    }

    public int insert(int row, int place, int code, int how) {
        Vector<Thing> list = row(row);
        argument(place, 0, 40);
        codeArgument(code);
        argument(how, 0, 1);
        state(list.size() < 30);
        cuts(row);
        if (place > list.size()) {
            return -9;
        }
        if (how == 0) {
            list.add(place, thing(code));
        } else {
            list.insertElementAt(thing(code), place);
        }
        return list.size();
    }

    public boolean addAll(int row, int other) {
        Vector<Thing> list = row(row);
        Vector<Thing> others = row(other);
        apart(row, other);
        state(list.size() + others.size() <= 30);
        cuts(row);
        return list.addAll(others);
    }

    public int addAllAt(int row, int place, int other) {
        Vector<Thing> list = row(row);
        Vector<Thing> others = row(other);
        apart(row, other);
        argument(place, 0, 40);
        state(list.size() + others.size() <= 30);
        cuts(row);
        if (place > list.size()) {
            return -9;
        }
        return list.addAll(place, others) ? 1 : 0;
    }

    public int set(int row, int place, int code) {
        Vector<Thing> list = row(row);
        argument(place, 0, 40);
        codeArgument(code);
        return place < list.size() ? code(list.set(place, thing(code))) : -9;
    }

    public int setElementAt(int row, int code, int place) {
        Vector<Thing> list = row(row);
        argument(place, 0, 40);
        codeArgument(code);
        if (place >= list.size()) {
            return -9;
        }
        list.setElementAt(thing(code), place);
        return list.size();
    }

    public int remove(int row, int place) {
        Vector<Thing> list = row(row);
        argument(place, 0, 40);
        cuts(row);
        return place < list.size() ? code(list.remove(place)) : -9;
    }

    public boolean removeThing(int row, int code, int how) {
        Vector<Thing> list = row(row);
        codeArgument(code);
        argument(how, 0, 1);
        cuts(row);
        return how == 0 ? list.remove(thing(code)) : list.removeElement(thing(code));
    }

    public int removeElementAt(int row, int place) {
        Vector<Thing> list = row(row);
        argument(place, 0, 40);
        cuts(row);
        if (place >= list.size()) {
            return -9;
        }
        list.removeElementAt(place);
        return list.size();
    }

    public boolean removeAll(int row, int other) {
        Vector<Thing> list = row(row);
        Vector<Thing> others = row(other);
        apart(row, other);
        cuts(row);
        return list.removeAll(others);
    }

    public boolean retainAll(int row, int other) {
        Vector<Thing> list = row(row);
        Vector<Thing> others = row(other);
        apart(row, other);
        cuts(row);
        return list.retainAll(others);
    }

    public int wipe(int row, int how) {
        Vector<Thing> list = row(row);
        argument(how, 0, 1);
        cuts(row);
        int before = list.size();
        list.clear();
        return before;
    }

    public int setSize(int row, int size) {
        Vector<Thing> list = row(row);
        argument(size, 0, 30);
        cuts(row);
        int before = list.size();
        list.setSize(size);
        return before;
    }

    public int room(int row, int size) {
        Vector<Thing> list = row(row);
        argument(size, -1, 40);
        cuts(row);
        return list.size();
    }

    public int sort(int row, boolean isDown) {
        Vector<Thing> list = row(row);
        cuts(row);
        list.sort(isDown ? UP.reversed() : UP);
        return list.isEmpty() ? -9 : code(list.firstElement());
    }

    public int push(int row, int code) {
        Stack<Thing> stack = stack(row);
        codeArgument(code);
        state(stack.size() < 30);
        cuts(row);
        return code(stack.push(thing(code)));
    }

    public int pop(int row) {
        Stack<Thing> stack = stack(row);
        cuts(row);
        return stack.empty() ? -9 : code(stack.pop());
    }

    public int peek(int row) {
        Stack<Thing> stack = stack(row);
        return stack.empty() ? -9 : code(stack.peek());
    }

    public int search(int row, int code) {
        Stack<Thing> stack = stack(row);
        codeArgument(code);
        return stack.search(thing(code));
    }

    public int at(int row, int place, int how) {
        Vector<Thing> list = row(row);
        argument(place, 0, 40);
        argument(how, 0, 1);
        return place < list.size() ? code(list.get(place)) : -9;
    }

    public int end(int row, boolean isLast) {
        Vector<Thing> list = row(row);
        if (list.isEmpty()) {
            return -9;
        }
        return code(isLast ? list.lastElement() : list.firstElement());
    }

    private static int found(List<Thing> list, int code, int how) {
        Thing thing = thing(code);
        if (how == 2) {
            return list.contains(thing) ? 1 : 0;
        }
        return how == 0 ? list.indexOf(thing) : list.lastIndexOf(thing);
    }

    public int find(int row, int code, int how) {
        Vector<Thing> list = row(row);
        codeArgument(code);
        argument(how, 0, 2);
        return found(list, code, how);
    }

    public int findFrom(int row, int code, int place) {
        Vector<Thing> list = row(row);
        codeArgument(code);
        argument(place, 0, 40);
        return list.indexOf(thing(code), place);
    }

    public int findTo(int row, int code, int place) {
        Vector<Thing> list = row(row);
        codeArgument(code);
        argument(place, -1, 40);
        return place >= list.size() ? -9 : list.lastIndexOf(thing(code), place);
    }

    public boolean containsAll(int row, int other) {
        return row(row).containsAll(row(other));
    }

    public boolean areEqual(int row, int other) {
        return row(row).equals(row(other));
    }

    private static int counted(List<Thing> list, int what) {
        if (what == 0) {
            return list.size();
        }
        return what == 1 ? list.isEmpty() ? 1 : 0 : list.hashCode();
    }

    public int count(int row, int what) {
        Vector<Thing> list = row(row);
        argument(what, 0, 3);
        if (what == 3) {
            return list instanceof Stack && ((Stack<Thing>) list).empty() ? 1 : 0;
        }
        return counted(list, what);
    }

    private static String codes(Thing[] things, int cells) {
        StringBuilder text = new StringBuilder();
        for (int i = 0; i < things.length; i++) {
            text.append(i == 0 ? "" : " ").append(i < cells ? String.valueOf(code(things[i])) : "-");
        }
        return text.toString();
    }

    public String text(int row, boolean isArray) {
        Vector<Thing> list = row(row);
        return isArray ? codes(list.toArray(new Thing[0]), list.size()) : list.toString();
    }

    public String copyInto(int row, int size) {
        Vector<Thing> list = row(row);
        argument(size, list.size(), 40);
        Thing[] things = new Thing[size];
        list.copyInto(things);
        return codes(things, list.size());
    }

    public int open(int cursor, int row, int kind, int place) {
        index(cursor, 0, 2);
        Vector<Thing> list = row(row);
        argument(kind, 0, 2);
        argument(place, 0, 40);
        if (kind == 1 && place > list.size()) {
            return -9;
        }
        cursorRows[cursor] = row;
        enumerations.set(cursor, kind == 2 ? list.elements() : null);
        Iterator<Thing> iterator = kind == 0 ? list.iterator() : null;
        iterators.set(cursor, kind == 1 ? list.listIterator(place) : iterator);
        return kind == 1 ? list.size() - place : list.size();
    }

    private ListIterator<Thing> both(int cursor) {
        state(iterators.get(cursor) instanceof ListIterator);
        return (ListIterator<Thing>) iterators.get(cursor);
    }

    public boolean has(int cursor, boolean isBack) {
        index(cursor, 0, 2);
        if (isBack) {
            return both(cursor).hasPrevious();
        }
        Enumeration<Thing> enumeration = enumerations.get(cursor);
        state(enumeration != null || iterators.get(cursor) != null);
        return enumeration != null ? enumeration.hasMoreElements() : iterators.get(cursor).hasNext();
    }

    public int go(int cursor, boolean isBack) {
        if (!has(cursor, isBack)) {
            return -9;
        }
        if (isBack) {
            return code(both(cursor).previous());
        }
        Enumeration<Thing> enumeration = enumerations.get(cursor);
        return code(enumeration != null ? enumeration.nextElement() : iterators.get(cursor).next());
    }

    public int place(int cursor, boolean isBack) {
        index(cursor, 0, 2);
        return isBack ? both(cursor).previousIndex() : both(cursor).nextIndex();
    }

    public int setBy(int cursor, int code) {
        index(cursor, 0, 2);
        codeArgument(code);
        ListIterator<Thing> iterator = both(cursor);
        try {
            iterator.set(thing(code));
        } catch (IllegalStateException none) {
            return -9;
        }
        return rows.get(cursorRows[cursor]).size();
    }

    public int addBy(int cursor, int code) {
        index(cursor, 0, 2);
        codeArgument(code);
        ListIterator<Thing> iterator = both(cursor);
        Vector<Thing> list = rows.get(cursorRows[cursor]);
        state(list.size() < 30);
        cuts(cursorRows[cursor], cursor, -1);
        iterator.add(thing(code));
        return list.size();
    }

    public int removeBy(int cursor) {
        index(cursor, 0, 2);
        Iterator<Thing> iterator = iterators.get(cursor);
        state(iterator != null);
        cuts(cursorRows[cursor], cursor, -1);
        try {
            iterator.remove();
        } catch (IllegalStateException none) {
            return -9;
        }
        return rows.get(cursorRows[cursor]).size();
    }

    public int view(int view, int row, int from, int to) {
        index(view, 0, 1);
        Vector<Thing> list = row(row);
        argument(from, 0, 40);
        argument(to, 0, 40);
        if (to > list.size() || from > to) {
            return -9;
        }
        if (view == 0 && isInner) {
            views.set(1, null);
        }
        views.set(view, list.subList(from, to));
        viewRows[view] = row;
        isInner = false;
        return to - from;
    }

    public int inner(int from, int to) {
        argument(from, 0, 40);
        argument(to, 0, 40);
        List<Thing> outer = views.get(0);
        state(outer != null);
        if (to > outer.size() || from > to) {
            return -9;
        }
        views.set(1, outer.subList(from, to));
        viewRows[1] = viewRows[0];
        isInner = true;
        return to - from;
    }

    private List<Thing> viewThere(int view) {
        state(views.get(view) != null);
        return views.get(view);
    }

    public int viewCount(int view, int what) {
        index(view, 0, 1);
        argument(what, 0, 3);
        List<Thing> list = viewThere(view);
        if (what == 3) {
            return list.equals(rows.get(viewRows[view])) ? 1 : 0;
        }
        return counted(list, what);
    }

    public String viewText(int view) {
        index(view, 0, 1);
        return viewThere(view).toString();
    }

    public int viewGet(int view, int place) {
        index(view, 0, 1);
        argument(place, 0, 40);
        List<Thing> list = viewThere(view);
        return place < list.size() ? code(list.get(place)) : -9;
    }

    public int viewSet(int view, int place, int code) {
        index(view, 0, 1);
        argument(place, 0, 40);
        codeArgument(code);
        List<Thing> list = viewThere(view);
        return place < list.size() ? code(list.set(place, thing(code))) : -9;
    }

    public int viewAdd(int view, int place, int code) {
        index(view, 0, 1);
        argument(place, 0, 40);
        codeArgument(code);
        List<Thing> list = viewThere(view);
        state(rows.get(viewRows[view]).size() < 30);
        cuts(viewRows[view], -1, view);
        if (place > list.size()) {
            return -9;
        }
        list.add(place, thing(code));
        return list.size();
    }

    public int viewRemove(int view, int place) {
        index(view, 0, 1);
        argument(place, 0, 40);
        List<Thing> list = viewThere(view);
        cuts(viewRows[view], -1, view);
        return place < list.size() ? code(list.remove(place)) : -9;
    }

    public int viewFind(int view, int code, int how) {
        index(view, 0, 1);
        codeArgument(code);
        argument(how, 0, 2);
        return found(viewThere(view), code, how);
    }

    public int viewClear(int view) {
        index(view, 0, 1);
        List<Thing> list = viewThere(view);
        cuts(viewRows[view], -1, view);
        list.clear();
        return rows.get(viewRows[view]).size();
    }

    public int knock() {
        return ++refused;
    }

    public boolean isSound() {
        return true;
    }

    public long digest() {
        Vector<Long> values = new Vector<>();
        for (int row = 0; row < 4; row++) {
            valuesOfRow(values, row);
        }
        add(values, peek(2), peek(3));
        for (int cursor = 0; cursor < 3; cursor++) {
            boolean isThere = iterators.get(cursor) != null || enumerations.get(cursor) != null;
            add(values, !isThere ? 2 : has(cursor, false) ? 1 : 0);
        }
        for (int view = 0; view < 2; view++) {
            if (views.get(view) == null) {
                add(values, -1);
            } else {
                add(values, viewCount(view, 0), viewCount(view, 1), viewCount(view, 2), viewCount(view, 3));
                add(values, viewText(view).length());
            }
        }
        add(values, 1);
        long d = 7701;
        for (long v : values) {
            d = d * 31 + v;
        }
        return d;
    }

    private void valuesOfRow(Vector<Long> values, int row) {
        add(values, count(row, 0), count(row, 1), count(row, 2), count(row, 3));
        for (Thing thing : rows.get(row)) {
            add(values, code(thing));
        }
        add(values, text(row, true).length(), text(row, false).length(), end(row, false), end(row, true));
        if (!rows.get(row).isEmpty()) {
            int first = end(row, false);
            add(values, find(row, first, 0), find(row, first, 1), find(row, first, 2));
        }
        int next = (row + 1) % 4;
        add(values, areEqual(row, next) ? 1 : 0, containsAll(row, next) ? 1 : 0);
    }

    private static void add(Vector<Long> values, int... more) {
        Arrays.stream(more).forEach(value -> values.add((long) value));
    }
}
