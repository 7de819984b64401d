/** Four rows of cells, two of them stacks, with three cursors and two views that go through them. */
public final class Reelrow {
    private static final int ROW_COUNT = 4;
    private static final int FIRST_STACK = 2;
    private static final int CURSOR_COUNT = 3;
    private static final int VIEW_COUNT = 2;
    private static final int OUTER = 0;
    private static final int INNER = 1;
    private static final int MOST_CELLS = 30;
    private static final int MOST_PLACES = 40;
    private static final int HIGHEST_CODE = 999;
    private static final int NONE = -1;
    private static final int UNDONE = -9;
    private static final int KIND_TAKES = 0;
    private static final int KIND_CHANGES = 1;
    private static final int KIND_GOES = 2;
    private static final long DIGEST_START = 7701L;

    private final Cells[] rows = new Cells[ROW_COUNT];
    private final Cursor[] cursors = new Cursor[CURSOR_COUNT];
    private final Span[] views = new Span[VIEW_COUNT];
    // These three are made once and used by every call that needs them, so that calls leave next to nothing behind.
    private final Cursor scout = new Cursor();
    private final int[] laid = new int[MOST_PLACES];
    private final StringBuilder words = new StringBuilder();
    private int refused;

    public Reelrow() {
        for (int row = 0; row < rows.length; row++) {
            rows[row] = new Cells();
        }
        for (int cursor = 0; cursor < cursors.length; cursor++) {
            cursors[cursor] = new Cursor();
        }
        for (int view = 0; view < views.length; view++) {
            views[view] = new Span();
        }
    }

    // ---- what comes

    public int add(int row, int code, int how)
            throws IndexOutOfBoundsException, IllegalArgumentException, IllegalStateException {
        Cells cells = rowOf(row);
        requireArgument(isCode(code) && isWithin(how, 0, 1));
        requireState(cells.hasRoomFor(1));
        cut(row);
        cells.putIn(cells.size, code);
        return cells.size;
    }

    public int insert(int row, int place, int code, int how)
            throws IndexOutOfBoundsException, IllegalArgumentException, IllegalStateException {
        Cells cells = rowOf(row);
        requireArgument(isPlace(place) && isCode(code) && isWithin(how, 0, 1));
        requireState(cells.hasRoomFor(1));
        cut(row);
        if (place > cells.size) {
            return UNDONE;
        }
        cells.putIn(place, code);
        return cells.size;
    }

    public boolean addAll(int row, int other)
            throws IndexOutOfBoundsException, IllegalArgumentException, IllegalStateException {
        Cells cells = rowOf(row);
        Cells others = rowOf(other);
        requireArgument(row != other);
        requireState(cells.hasRoomFor(others.size));
        cut(row);
        cells.putInAll(cells.size, others);
        return others.size > 0;
    }

    public int addAllAt(int row, int place, int other)
            throws IndexOutOfBoundsException, IllegalArgumentException, IllegalStateException {
        Cells cells = rowOf(row);
        Cells others = rowOf(other);
        requireArgument(row != other && isPlace(place));
        requireState(cells.hasRoomFor(others.size));
        cut(row);
        if (place > cells.size) {
            return UNDONE;
        }
        cells.putInAll(place, others);
        return asNumber(others.size > 0);
    }

    public int set(int row, int place, int code) throws IndexOutOfBoundsException, IllegalArgumentException {
        Cells cells = rowOf(row);
        requireArgument(isPlace(place) && isCode(code));
        return cells.change(place, code);
    }

    public int setElementAt(int row, int code, int place)
            throws IndexOutOfBoundsException, IllegalArgumentException {
        Cells cells = rowOf(row);
        requireArgument(isPlace(place) && isCode(code));
        return cells.change(place, code) == UNDONE ? UNDONE : cells.size;
    }

    // ---- what goes

    public int remove(int row, int place) throws IndexOutOfBoundsException, IllegalArgumentException {
        Cells cells = rowOf(row);
        requireArgument(isPlace(place));
        cut(row);
        return cells.takeOut(place);
    }

    public boolean removeThing(int row, int code, int how)
            throws IndexOutOfBoundsException, IllegalArgumentException {
        Cells cells = rowOf(row);
        requireArgument(isCode(code) && isWithin(how, 0, 1));
        cut(row);
        return cells.takeOut(cells.firstSame(code, 0, cells.size)) != UNDONE;
    }

    public int removeElementAt(int row, int place) throws IndexOutOfBoundsException, IllegalArgumentException {
        Cells cells = rowOf(row);
        requireArgument(isPlace(place));
        cut(row);
        return cells.takeOut(place) == UNDONE ? UNDONE : cells.size;
    }

    public boolean removeAll(int row, int other) throws IndexOutOfBoundsException, IllegalArgumentException {
        Cells cells = rowOf(row);
        Cells others = rowOf(other);
        requireArgument(row != other);
        cut(row);
        return cells.sift(others, false);
    }

    public boolean retainAll(int row, int other) throws IndexOutOfBoundsException, IllegalArgumentException {
        Cells cells = rowOf(row);
        Cells others = rowOf(other);
        requireArgument(row != other);
        cut(row);
        return cells.sift(others, true);
    }

    public int wipe(int row, int how) throws IndexOutOfBoundsException, IllegalArgumentException {
        Cells cells = rowOf(row);
        requireArgument(isWithin(how, 0, 1));
        cut(row);
        int before = cells.size;
        cells.resize(0);
        return before;
    }

    public int setSize(int row, int size) throws IndexOutOfBoundsException, IllegalArgumentException {
        Cells cells = rowOf(row);
        requireArgument(isWithin(size, 0, MOST_CELLS));
        cut(row);
        int before = cells.size;
        cells.resize(size);
        return before;
    }

    public int room(int row, int size) throws IndexOutOfBoundsException, IllegalArgumentException {
        Cells cells = rowOf(row);
        requireArgument(isPlaceOrNone(size));
        cut(row);
        return cells.size;
    }

    public int sort(int row, boolean isDown) throws IndexOutOfBoundsException {
        Cells cells = rowOf(row);
        cut(row);
        cells.arrange(isDown);
        return cells.codeAt(0);
    }

    // ---- stacks

    public int push(int row, int code)
            throws IndexOutOfBoundsException, IllegalArgumentException, IllegalStateException {
        Cells cells = stackOf(row);
        requireArgument(isCode(code));
        requireState(cells.hasRoomFor(1));
        cut(row);
        cells.putIn(cells.size, code);
        return code;
    }

    public int pop(int row) throws IndexOutOfBoundsException {
        Cells cells = stackOf(row);
        cut(row);
        return cells.takeOut(cells.size - 1);
    }

    public int peek(int row) throws IndexOutOfBoundsException {
        Cells cells = stackOf(row);
        return cells.codeAt(cells.size - 1);
    }

    public int search(int row, int code) throws IndexOutOfBoundsException, IllegalArgumentException {
        Cells cells = stackOf(row);
        requireArgument(isCode(code));
        int spot = cells.lastSame(code, 0, cells.size);
        return spot == NONE ? NONE : cells.size - spot;
    }

    // ---- what is asked of rows

    public int at(int row, int place, int how) throws IndexOutOfBoundsException, IllegalArgumentException {
        Cells cells = rowOf(row);
        requireArgument(isPlace(place) && isWithin(how, 0, 1));
        return cells.codeAt(place);
    }

    public int end(int row, boolean isLast) throws IndexOutOfBoundsException {
        Cells cells = rowOf(row);
        return cells.codeAt(isLast ? cells.size - 1 : 0);
    }

    public int find(int row, int code, int how) throws IndexOutOfBoundsException, IllegalArgumentException {
        Cells cells = rowOf(row);
        requireArgument(isCode(code) && isWithin(how, 0, 2));
        return cells.lookUp(code, how, 0, cells.size);
    }

    public int findFrom(int row, int code, int place) throws IndexOutOfBoundsException, IllegalArgumentException {
        Cells cells = rowOf(row);
        requireArgument(isCode(code) && isPlace(place));
        return cells.firstSame(code, place, cells.size);
    }

    public int findTo(int row, int code, int place) throws IndexOutOfBoundsException, IllegalArgumentException {
        Cells cells = rowOf(row);
        requireArgument(isCode(code) && isPlaceOrNone(place));
        if (place >= cells.size) {
            return UNDONE;
        }
        return cells.lastSame(code, 0, place + 1);
    }

    public boolean containsAll(int row, int other) throws IndexOutOfBoundsException {
        Cells cells = rowOf(row);
        return cells.hasAllOf(rowOf(other));
    }

    public boolean areEqual(int row, int other) throws IndexOutOfBoundsException {
        Cells cells = rowOf(row);
        return cells.isLike(rowOf(other));
    }

    public int count(int row, int what) throws IndexOutOfBoundsException, IllegalArgumentException {
        Cells cells = rowOf(row);
        requireArgument(isWithin(what, 0, 3));
        if (what == 3) {
            return asNumber(row >= FIRST_STACK && cells.size == 0);
        }
        return cells.tally(what, 0, cells.size);
    }

    public String text(int row, boolean isArray) throws IndexOutOfBoundsException {
        write(rowOf(row), isArray);
        return words.toString();
    }

    public String copyInto(int row, int size) throws IndexOutOfBoundsException, IllegalArgumentException {
        Cells cells = rowOf(row);
        requireArgument(size <= MOST_PLACES && size >= cells.size);
        cells.layInto(laid);
        writeLaid(size);
        return words.toString();
    }

    // ---- cursors

    public int open(int cursor, int row, int kind, int place)
            throws IndexOutOfBoundsException, IllegalArgumentException {
        Cursor opened = cursorOf(cursor);
        Cells cells = rowOf(row);
        requireArgument(isWithin(kind, KIND_TAKES, KIND_GOES) && isPlace(place));
        int stand = kind == KIND_CHANGES ? place : 0;
        if (stand > cells.size) {
            return UNDONE;
        }
        opened.start(row, kind, stand);
        return cells.size - stand;
    }

    public boolean has(int cursor, boolean isBack) throws IndexOutOfBoundsException, IllegalStateException {
        Cursor asked = cursorOf(cursor);
        requireState(asked.canGo(isBack));
        return rowOf(asked.row).codeAt(asked.nextPlace(isBack)) != UNDONE;
    }

    public int go(int cursor, boolean isBack) throws IndexOutOfBoundsException, IllegalStateException {
        Cursor asked = cursorOf(cursor);
        requireState(asked.canGo(isBack));
        return asked.step(rowOf(asked.row), isBack);
    }

    public int place(int cursor, boolean isBack) throws IndexOutOfBoundsException, IllegalStateException {
        Cursor asked = cursorOf(cursor);
        requireState(asked.canChange());
        return asked.nextPlace(isBack);
    }

    public int setBy(int cursor, int code)
            throws IndexOutOfBoundsException, IllegalArgumentException, IllegalStateException {
        Cursor asked = cursorOf(cursor);
        requireArgument(isCode(code));
        requireState(asked.canChange());
        Cells cells = rowOf(asked.row);
        return cells.change(asked.passed, code) == UNDONE ? UNDONE : cells.size;
    }

    public int addBy(int cursor, int code)
            throws IndexOutOfBoundsException, IllegalArgumentException, IllegalStateException {
        Cursor asked = cursorOf(cursor);
        requireArgument(isCode(code));
        requireState(asked.canChange());
        Cells cells = rowOf(asked.row);
        requireState(cells.hasRoomFor(1));
        cutByCursor(cursor, asked.row);
        cells.putIn(asked.stand, code);
        asked.standAt(asked.stand + 1);
        return cells.size;
    }

    public int removeBy(int cursor) throws IndexOutOfBoundsException, IllegalStateException {
        Cursor asked = cursorOf(cursor);
        requireState(asked.canTakeOut());
        cutByCursor(cursor, asked.row);
        Cells cells = rowOf(asked.row);
        if (cells.takeOut(asked.passed) == UNDONE) {
            return UNDONE;
        }
        asked.standAt(asked.passed);
        return cells.size;
    }

    // ---- views

    public int view(int view, int row, int from, int to)
            throws IndexOutOfBoundsException, IllegalArgumentException {
        Span opened = viewOf(view);
        Cells cells = rowOf(row);
        requireArgument(isPlace(from) && isPlace(to));
        if (to > cells.size || from > to) {
            return UNDONE;
        }
        if (view == OUTER) {
            loseInner();
        }
        opened.start(row, from, to, false);
        return opened.size;
    }

    public int inner(int from, int to) throws IllegalArgumentException, IllegalStateException {
        requireArgument(isPlace(from) && isPlace(to));
        Span outer = viewOf(OUTER);
        requireState(outer.isThere);
        if (to > outer.size || from > to) {
            return UNDONE;
        }
        Span opened = viewOf(INNER);
        opened.start(outer.row, outer.from + from, outer.from + to, true);
        return opened.size;
    }

    public int viewCount(int view, int what)
            throws IndexOutOfBoundsException, IllegalArgumentException, IllegalStateException {
        Span asked = viewOf(view);
        requireArgument(isWithin(what, 0, 3));
        requireState(asked.isThere);
        Cells cells = rowOf(asked.row);
        if (what == 3) {
            // A part that has as many cells as its row is all of it.
            return asNumber(asked.size == cells.size);
        }
        return cells.tally(what, asked.from, asked.to());
    }

    public String viewText(int view) throws IndexOutOfBoundsException, IllegalStateException {
        Span asked = viewOf(view);
        requireState(asked.isThere);
        writeThings(rowOf(asked.row), asked.from, asked.to());
        return words.toString();
    }

    public int viewGet(int view, int place)
            throws IndexOutOfBoundsException, IllegalArgumentException, IllegalStateException {
        Span asked = viewOf(view);
        requireArgument(isPlace(place));
        requireState(asked.isThere);
        return rowOf(asked.row).codeAt(asked.placeInRow(place));
    }

    public int viewSet(int view, int place, int code)
            throws IndexOutOfBoundsException, IllegalArgumentException, IllegalStateException {
        Span asked = viewOf(view);
        requireArgument(isPlace(place) && isCode(code));
        requireState(asked.isThere);
        return rowOf(asked.row).change(asked.placeInRow(place), code);
    }

    public int viewAdd(int view, int place, int code)
            throws IndexOutOfBoundsException, IllegalArgumentException, IllegalStateException {
        Span asked = viewOf(view);
        requireArgument(isPlace(place) && isCode(code));
        requireState(asked.isThere);
        Cells cells = rowOf(asked.row);
        requireState(cells.hasRoomFor(1));
        cutByView(view, asked);
        if (place > asked.size) {
            return UNDONE;
        }
        cells.putIn(asked.from + place, code);
        widen(asked, 1);
        return asked.size;
    }

    public int viewRemove(int view, int place)
            throws IndexOutOfBoundsException, IllegalArgumentException, IllegalStateException {
        Span asked = viewOf(view);
        requireArgument(isPlace(place));
        requireState(asked.isThere);
        cutByView(view, asked);
        int code = rowOf(asked.row).takeOut(asked.placeInRow(place));
        if (code != UNDONE) {
            widen(asked, -1);
        }
        return code;
    }

    public int viewFind(int view, int code, int how)
            throws IndexOutOfBoundsException, IllegalArgumentException, IllegalStateException {
        Span asked = viewOf(view);
        requireArgument(isCode(code) && isWithin(how, 0, 2));
        requireState(asked.isThere);
        return rowOf(asked.row).lookUp(code, how, asked.from, asked.to());
    }

    public int viewClear(int view) throws IndexOutOfBoundsException, IllegalStateException {
        Span asked = viewOf(view);
        requireState(asked.isThere);
        cutByView(view, asked);
        Cells cells = rowOf(asked.row);
        cells.closeGap(asked.from, asked.to());
        widen(asked, -asked.size);
        return cells.size;
    }

    // ---- all

    public int knock() {
        refused++;
        return refused;
    }

    public boolean isSound() {
        boolean isSo = true;
        for (int row = 0; row < rows.length && isSo; row++) {
            isSo = isToldAlike(row) && isFoundAlike(row) && isSumRight(rows[row], 0, rows[row].size, count(row, 2));
            for (int other = 0; other < rows.length && isSo; other++) {
                isSo = isHeldRight(row, other);
            }
        }
        for (int view = 0; view < views.length && isSo; view++) {
            isSo = isViewRight(view);
        }
        return isSo;
    }

    public long digest() {
        long d = DIGEST_START;
        for (int row = 0; row < rows.length; row++) {
            d = foldHolding(foldFinding(foldCells(d, row), row), row);
        }
        for (int row = FIRST_STACK; row < rows.length; row++) {
            d = fold(d, peek(row));
        }
        for (int cursor = 0; cursor < cursors.length; cursor++) {
            d = fold(d, cursors[cursor].isThere ? asNumber(has(cursor, false)) : 2);
        }
        for (int view = 0; view < views.length; view++) {
            d = foldView(d, view);
        }
        return fold(d, asNumber(isSound()));
    }

    // ---- what is looked at ahead of a call

    private Cells rowOf(int row) {
        if (row < 0 || row >= rows.length) {
            throw new IndexOutOfBoundsException("there is no such row");
        }
        return rows[row];
    }

    private Cells stackOf(int row) {
        if (row < FIRST_STACK || row >= rows.length) {
            throw new IndexOutOfBoundsException("there is no such stack");
        }
        return rows[row];
    }

    private Cursor cursorOf(int cursor) {
        if (cursor < 0 || cursor >= cursors.length) {
            throw new IndexOutOfBoundsException("there is no such cursor");
        }
        return cursors[cursor];
    }

    private Span viewOf(int view) {
        if (view < 0 || view >= views.length) {
            throw new IndexOutOfBoundsException("there is no such view");
        }
        return views[view];
    }

    private static void requireArgument(boolean isMet) {
        if (!isMet) {
            throw new IllegalArgumentException("an argument is not in its bounds");
        }
    }

    private static void requireState(boolean isMet) {
        if (!isMet) {
            throw new IllegalStateException("this cannot be asked now");
        }
    }

    private static boolean isWithin(int number, int lowest, int highest) {
        return number >= lowest && number <= highest;
    }

    private static boolean isCode(int code) {
        return isWithin(code, NONE, HIGHEST_CODE);
    }

    private static boolean isPlace(int place) {
        return isWithin(place, 0, MOST_PLACES);
    }

    private static boolean isPlaceOrNone(int place) {
        return isWithin(place, NONE, MOST_PLACES);
    }

    private static int asNumber(boolean isSo) {
        return isSo ? 1 : 0;
    }

    // ---- what is lost by a call

    private void cut(int row) {
        cutByCursor(NONE, row);
    }

    private void cutByCursor(int caller, int row) {
        cutCursors(row, caller);
        cutViews(row, NONE);
    }

    private void cutByView(int caller, Span asked) {
        cutCursors(asked.row, NONE);
        cutViews(asked.row, caller);
    }

    private void cutCursors(int row, int caller) {
        for (int cursor = 0; cursor < cursors.length; cursor++) {
            if (cursor != caller && cursors[cursor].row == row) {
                cursors[cursor].isThere = false;
            }
        }
    }

    private void cutViews(int row, int caller) {
        for (int view = 0; view < views.length; view++) {
            if (view != caller && views[view].row == row && !isOuterOf(view, caller)) {
                views[view].isThere = false;
            }
        }
    }

    private boolean isOuterOf(int view, int caller) {
        return view == OUTER && caller == INNER && views[INNER].isInner;
    }

    private void loseInner() {
        if (views[INNER].isInner) {
            views[INNER].isThere = false;
        }
    }

    // An inner view's cells are the outer one's, too, so both grow and shrink together.
    private void widen(Span asked, int by) {
        asked.size += by;
        if (asked.isInner) {
            views[OUTER].size += by;
        }
    }

    // ---- texts

    private void write(Cells cells, boolean isArray) {
        if (isArray) {
            cells.layInto(laid);
            writeLaid(cells.size);
        } else {
            writeThings(cells, 0, cells.size);
        }
    }

    private void writeLaid(int count) {
        words.setLength(0);
        for (int i = 0; i < count && i < laid.length; i++) {
            if (i > 0) {
                words.append(' ');
            }
            writeLaidPlace(laid[i]);
        }
    }

    private void writeLaidPlace(int code) {
        if (code < 0) {
            words.append(code == NONE ? "-1" : "-");
        } else {
            writeNumber(code);
        }
    }

    private void writeThings(Cells cells, int from, int to) {
        words.setLength(0);
        words.append('[');
        for (int place = from; place < to; place++) {
            if (place > from) {
                words.append(", ");
            }
            writeThing(cells.codeAt(place));
        }
        words.append(']');
    }

    private void writeThing(int code) {
        if (code < 0) {
            words.append("null");
        } else {
            writeNumber(code / 10);
            words.append('/');
            writeNumber(code % 10);
        }
    }

    // Digit by digit, since append(int) may make a text of its own each time, and digest() writes some hundred numbers.
    private void writeNumber(int number) {
        if (number > 99) {
            writeDigit(number / 100);
        }
        if (number > 9) {
            writeDigit(number / 10);
        }
        writeDigit(number);
    }

    private void writeDigit(int number) {
        words.append((char) ('0' + number % 10));
    }

    // ---- whether all is sound

    private boolean isToldAlike(int row) {
        Cells cells = rows[row];
        cells.layInto(laid);
        boolean isSo = cells.size <= laid.length;
        for (int place = 0; place < cells.size && isSo; place++) {
            isSo = at(row, place, 0) == laid[place] && at(row, place, 1) == laid[place];
        }
        isSo = isSo && isWayOnRight(row, KIND_TAKES, 0) && isWayOnRight(row, KIND_GOES, 0);
        for (int place = 0; place <= cells.size && isSo; place++) {
            isSo = isWayOnRight(row, KIND_CHANGES, place) && isWayBackRight(row, place);
        }
        return isSo;
    }

    private boolean isWayOnRight(int row, int kind, int start) {
        Cells cells = rows[row];
        scout.start(row, kind, start);
        boolean isSo = true;
        for (int place = start; place < cells.size && place < laid.length && isSo; place++) {
            isSo = scout.nextPlace(false) == place && scout.step(cells, false) == laid[place];
        }
        return isSo && scout.step(cells, false) == UNDONE;
    }

    private boolean isWayBackRight(int row, int start) {
        Cells cells = rows[row];
        scout.start(row, KIND_CHANGES, start);
        boolean isSo = start <= laid.length;
        for (int place = start - 1; place >= 0 && isSo; place--) {
            isSo = scout.nextPlace(true) == place && scout.step(cells, true) == laid[place];
        }
        return isSo && scout.step(cells, true) == UNDONE;
    }

    private boolean isFoundAlike(int row) {
        Cells cells = rows[row];
        boolean isSo = true;
        for (int place = 0; place < cells.size && isSo; place++) {
            int code = cells.codeAt(place);
            isSo = isFoundFrom(row, code) && isFoundTo(row, code);
        }
        return isSo;
    }

    // Going through once, from the far end, tells for every place what is to be found from there.
    private boolean isFoundFrom(int row, int code) {
        Cells cells = rows[row];
        int due = NONE;
        boolean isSo = findFrom(row, code, cells.size) == NONE;
        for (int place = cells.size - 1; place >= 0 && isSo; place--) {
            due = areSame(cells.codeAt(place), code) ? place : due;
            isSo = findFrom(row, code, place) == due;
        }
        return isSo && find(row, code, 0) == due;
    }

    private boolean isFoundTo(int row, int code) {
        Cells cells = rows[row];
        int due = NONE;
        boolean isSo = findTo(row, code, NONE) == NONE;
        for (int place = 0; place < cells.size && isSo; place++) {
            due = areSame(cells.codeAt(place), code) ? place : due;
            isSo = findTo(row, code, place) == due;
        }
        return isSo && find(row, code, 1) == due;
    }

    private boolean isHeldRight(int row, int other) {
        Cells cells = rows[row];
        Cells others = rows[other];
        boolean isAlike = cells.size == others.size;
        boolean isAllThere = true;
        for (int place = 0; place < others.size; place++) {
            int code = others.codeAt(place);
            isAlike = isAlike && areSame(cells.codeAt(place), code);
            isAllThere = isAllThere && find(row, code, 0) != NONE;
        }
        return areEqual(row, other) == isAlike && containsAll(row, other) == isAllThere;
    }

    private boolean isViewRight(int view) {
        Span span = views[view];
        if (!span.isThere) {
            return true;
        }
        Cells cells = rowOf(span.row);
        return span.from >= 0 && span.size >= 0 && span.to() <= cells.size
                && isSumRight(cells, span.from, span.to(), viewCount(view, 2));
    }

    private static boolean isSumRight(Cells cells, int from, int to, int told) {
        int due = 1;
        for (int place = from; place < to; place++) {
            int code = cells.codeAt(place);
            due = 31 * due + (code < 0 ? 0 : code / 10);
        }
        return due == told;
    }

    // ---- the checksum

    private static long fold(long d, long v) {
        return d * 31 + v;
    }

    private long foldCells(long start, int row) {
        Cells cells = rows[row];
        long d = start;
        for (int what = 0; what <= 3; what++) {
            d = fold(d, count(row, what));
        }
        for (int place = 0; place < cells.size; place++) {
            d = fold(d, cells.codeAt(place));
        }
        write(cells, true);
        d = fold(d, words.length());
        write(cells, false);
        return fold(d, words.length());
    }

    private long foldFinding(long start, int row) {
        Cells cells = rows[row];
        long d = fold(fold(start, end(row, false)), end(row, true));
        for (int how = 0; how <= 2 && cells.size > 0; how++) {
            d = fold(d, find(row, cells.codeAt(0), how));
        }
        return d;
    }

    private long foldHolding(long start, int row) {
        int next = row + 1 < rows.length ? row + 1 : 0;
        return fold(fold(start, asNumber(areEqual(row, next))), asNumber(containsAll(row, next)));
    }

    private long foldView(long start, int view) {
        Span span = views[view];
        if (!span.isThere) {
            return fold(start, NONE);
        }
        long d = start;
        for (int what = 0; what <= 3; what++) {
            d = fold(d, viewCount(view, what));
        }
        writeThings(rowOf(span.row), span.from, span.to());
        return fold(d, words.length());
    }

    // ---- cells

    private static boolean areSame(int code, int other) {
        return numberOf(code) == numberOf(other);
    }

    // NOTHING counts as a number below all, so that it is the same as itself alone and sorts ahead of all.
    private static int numberOf(int code) {
        return code < 0 ? code : code / 10;
    }

    /** The cells of one row, by their codes. */
    private static final class Cells {
        private final int[] codes = new int[MOST_CELLS];
        private int size;

        boolean hasRoomFor(int more) {
            return more <= codes.length - size;
        }

        int codeAt(int spot) {
            return spot >= 0 && spot < size && spot < codes.length ? codes[spot] : UNDONE;
        }

        int change(int spot, int code) {
            int before = codeAt(spot);
            if (before != UNDONE) {
                codes[spot] = code;
            }
            return before;
        }

        void putIn(int spot, int code) {
            if (openGap(spot, 1)) {
                codes[spot] = code;
            }
        }

        void putInAll(int spot, Cells others) {
            if (openGap(spot, others.size)) {
                System.arraycopy(others.codes, 0, codes, spot, others.size);
            }
        }

        private boolean openGap(int spot, int width) {
            if (spot < 0 || spot > size || width < 0 || !hasRoomFor(width)) {
                return false;
            }
            System.arraycopy(codes, spot, codes, spot + width, size - spot);
            size += width;
            return true;
        }

        void closeGap(int from, int to) {
            if (from >= 0 && from <= to && to <= size) {
                System.arraycopy(codes, to, codes, from, size - to);
                size -= to - from;
            }
        }

        int takeOut(int spot) {
            int code = codeAt(spot);
            if (code != UNDONE) {
                closeGap(spot, spot + 1);
            }
            return code;
        }

        boolean sift(Cells others, boolean isKept) {
            int kept = 0;
            for (int spot = 0; spot < size; spot++) {
                int code = codeAt(spot);
                boolean isThere = others.firstSame(code, 0, others.size) != NONE;
                if (isThere == isKept) {
                    change(kept, code);
                    kept++;
                }
            }
            boolean hasGone = kept < size;
            size = kept;
            return hasGone;
        }

        void resize(int due) {
            int next = Math.min(due, codes.length);
            for (int spot = size; spot < next; spot++) {
                codes[spot] = NONE;
            }
            size = next;
        }

        void arrange(boolean isDown) {
            for (int next = 1; next < size; next++) {
                int code = codeAt(next);
                int spot = next;
                while (spot > 0 && isAhead(code, codeAt(spot - 1), isDown)) {
                    change(spot, codeAt(spot - 1));
                    spot--;
                }
                change(spot, code);
            }
        }

        private static boolean isAhead(int code, int other, boolean isDown) {
            return isDown ? numberOf(code) > numberOf(other) : numberOf(code) < numberOf(other);
        }

        int firstSame(int code, int from, int to) {
            int number = numberOf(code);
            for (int spot = from; spot < to; spot++) {
                if (numberOf(codeAt(spot)) == number) {
                    return spot;
                }
            }
            return NONE;
        }

        int lastSame(int code, int from, int to) {
            int number = numberOf(code);
            for (int spot = to - 1; spot >= from; spot--) {
                if (numberOf(codeAt(spot)) == number) {
                    return spot;
                }
            }
            return NONE;
        }

        int lookUp(int code, int how, int from, int to) {
            int spot = how == 1 ? lastSame(code, from, to) : firstSame(code, from, to);
            if (how == 2) {
                return asNumber(spot != NONE);
            }
            return spot == NONE ? NONE : spot - from;
        }

        boolean hasAllOf(Cells others) {
            boolean isSo = true;
            for (int spot = 0; spot < others.size && isSo; spot++) {
                isSo = firstSame(others.codeAt(spot), 0, size) != NONE;
            }
            return isSo;
        }

        boolean isLike(Cells others) {
            boolean isSo = size == others.size;
            for (int spot = 0; spot < size && isSo; spot++) {
                isSo = areSame(codeAt(spot), others.codeAt(spot));
            }
            return isSo;
        }

        int tally(int what, int from, int to) {
            if (what == 2) {
                return sumOf(from, to);
            }
            return what == 1 ? asNumber(from == to) : to - from;
        }

        private int sumOf(int from, int to) {
            int sum = 1;
            for (int spot = from; spot < to; spot++) {
                sum = 31 * sum + Math.max(numberOf(codeAt(spot)), 0);
            }
            return sum;
        }

        // A place that gets no cell is marked by what no code can be.
        void layInto(int[] array) {
            for (int spot = 0; spot < array.length; spot++) {
                array[spot] = codeAt(spot);
            }
        }
    }

    /** Where a cursor stands, and which cell it went over last. */
    private static final class Cursor {
        private boolean isThere;
        private int row;
        private int kind;
        private int stand;
        private int passed = NONE;

        void start(int ofRow, int ofKind, int ahead) {
            isThere = true;
            row = ofRow;
            kind = ofKind;
            standAt(ahead);
        }

        void standAt(int spot) {
            stand = spot;
            passed = NONE;
        }

        boolean canGo(boolean isBack) {
            return isThere && (!isBack || kind == KIND_CHANGES);
        }

        boolean canChange() {
            return isThere && kind == KIND_CHANGES;
        }

        boolean canTakeOut() {
            return isThere && kind != KIND_GOES;
        }

        int nextPlace(boolean isBack) {
            return isBack ? stand - 1 : stand;
        }

        int step(Cells cells, boolean isBack) {
            int next = nextPlace(isBack);
            int code = cells.codeAt(next);
            if (code != UNDONE) {
                passed = next;
                stand = isBack ? next : next + 1;
            }
            return code;
        }
    }

    /** The part of a row that a view shows. */
    private static final class Span {
        private boolean isThere;
        private boolean isInner;
        private int row;
        private int from;
        private int size;

        void start(int ofRow, int first, int behind, boolean isOfOther) {
            isThere = true;
            isInner = isOfOther;
            row = ofRow;
            from = first;
            size = behind - first;
        }

        int to() {
            return from + size;
        }

        int placeInRow(int spot) {
            return spot >= 0 && spot < size ? from + spot : NONE;
        }
    }
}
