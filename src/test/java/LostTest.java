/** What a call that is marked CUTS makes lost and what it spares, and that no other call makes anything lost. */
public final class LostTest {
    private static final Due DUE = new Due("lost");

    /** A call on a row, with another row to it. */
    private interface RowCall {
        Object on(Reelrow x, int row, int other);
    }

    /** A call by a cursor or by a view. */
    private interface NumberCall {
        Object on(Reelrow x, int number);
    }

    public static void main(String[] args) {
        callsOfRows();
        callsOfStacks();
        callsByCursors();
        callsByViews();
        othersCutNothing();
        askingChangesNothing();
        goneViews();
        lostIsLostUntilOpenedAnew();
        DUE.done();
    }

    private static void callsOfRows() {
        cuts("2 add", (x, row, other) -> x.add(row, 5, 0));
        cuts("2 addElement", (x, row, other) -> x.add(row, -1, 1));
        cuts("3 insert", (x, row, other) -> x.insert(row, 0, 5, 0));
        cuts("3 insertElementAt", (x, row, other) -> x.insert(row, 3, 5, 1));
        cuts("3 -9", (x, row, other) -> x.insert(row, 4, 5, 0));
        cuts("3 -9, too", (x, row, other) -> x.insert(row, 40, 5, 1));
        cuts("4 some", (x, row, other) -> x.addAll(row, other));
        cuts("5 some", (x, row, other) -> x.addAllAt(row, 1, other));
        cuts("5 -9", (x, row, other) -> x.addAllAt(row, 4, other));
        cuts("8 a cell", (x, row, other) -> x.remove(row, 2));
        cuts("8 -9", (x, row, other) -> x.remove(row, 3));
        cuts("9 one", (x, row, other) -> x.removeThing(row, 29, 0));
        cuts("9 one, too", (x, row, other) -> x.removeThing(row, 29, 1));
        cuts("9 none", (x, row, other) -> x.removeThing(row, 999, 0));
        cuts("9 none, too", (x, row, other) -> x.removeThing(row, 999, 1));
        cuts("10 a cell", (x, row, other) -> x.removeElementAt(row, 2));
        cuts("10 -9", (x, row, other) -> x.removeElementAt(row, 3));
        cuts("11 some", (x, row, other) -> x.removeAll(row, other));
        cuts("12 some", (x, row, other) -> x.retainAll(row, other));
        cuts("13 removeAllElements", (x, row, other) -> x.wipe(row, 0));
        cuts("13 clear", (x, row, other) -> x.wipe(row, 1));
        cuts("14 less", (x, row, other) -> x.setSize(row, 0));
        cuts("14 more", (x, row, other) -> x.setSize(row, 30));
        cuts("14 as many", (x, row, other) -> x.setSize(row, 3));
        cuts("15 room", (x, row, other) -> x.room(row, 40));
        cuts("15 none", (x, row, other) -> x.room(row, 0));
        cuts("15 taken back", (x, row, other) -> x.room(row, -1));
        cuts("16 sort", (x, row, other) -> x.sort(row, false));
        cuts("16 sort, falling", (x, row, other) -> x.sort(row, true));
        changeNothingAndCut();
    }

    // What there is nothing to be done for, as the other row is empty or the row itself is.
    private static void changeNothingAndCut() {
        cutsAlone("4 none", (x, row, other) -> x.addAll(row, other));
        cutsAlone("5 none", (x, row, other) -> x.addAllAt(row, 3, other));
        cutsAlone("5 none, -9", (x, row, other) -> x.addAllAt(row, 4, other));
        cutsAlone("11 none", (x, row, other) -> x.removeAll(row, other));
        cutsEmpty("8 of empty", (x, row, other) -> x.remove(row, 0));
        cutsEmpty("9 of empty", (x, row, other) -> x.removeThing(row, -1, 0));
        cutsEmpty("10 of empty", (x, row, other) -> x.removeElementAt(row, 0));
        cutsEmpty("11 of empty", (x, row, other) -> x.removeAll(row, other));
        cutsEmpty("12 of empty", (x, row, other) -> x.retainAll(row, other));
        cutsEmpty("13 of empty", (x, row, other) -> x.wipe(row, 0));
        cutsEmpty("13 of empty, too", (x, row, other) -> x.wipe(row, 1));
        cutsEmpty("14 of empty", (x, row, other) -> x.setSize(row, 0));
        cutsEmpty("15 of empty", (x, row, other) -> x.room(row, 0));
        cutsEmpty("16 of empty", (x, row, other) -> x.sort(row, false));
        cutsEmpty("16 of empty, falling", (x, row, other) -> x.sort(row, true));
    }

    private static void callsOfStacks() {
        for (int stack = 2; stack <= 3; stack++) {
            cutsRow("17 push", stack, 3, 2, (x, row, other) -> x.push(row, 5));
            cutsRow("17 push NOTHING", stack, 3, 2, (x, row, other) -> x.push(row, -1));
            cutsRow("18 pop", stack, 3, 2, (x, row, other) -> x.pop(row));
            cutsRow("18 pop of empty", stack, 0, 2, (x, row, other) -> x.pop(row));
        }
    }

    private static void cuts(String what, RowCall call) {
        for (int row = 0; row <= 3; row++) {
            cutsRow(what, row, 3, 2, call);
        }
    }

    private static void cutsAlone(String what, RowCall call) {
        for (int row = 0; row <= 3; row++) {
            cutsRow(what, row, 3, 0, call);
        }
    }

    private static void cutsEmpty(String what, RowCall call) {
        for (int row = 0; row <= 3; row++) {
            cutsRow(what, row, 0, 2, call);
        }
    }

    // By the turns each cursor and each view comes on each row, and each cursor is of each kind.
    private static void cutsRow(String what, int row, int cells, int otherCells, RowCall call) {
        for (int turn = 0; turn < 12; turn++) {
            Reelrow x = seated(row, cells, otherCells, turn);
            call.on(x, row, (row + 1) % 4);
            for (int i = 0; i <= 2; i++) {
                int at = (i + turn) % 4;
                DUE.is(what + ": cursor " + i + " of row " + at + " by row " + row, isCursorThere(x, i), at != row);
            }
            for (int i = 0; i <= 1; i++) {
                int at = (i + turn) % 4;
                DUE.is(what + ": view " + i + " of row " + at + " by row " + row, isViewThere(x, i), at != row);
            }
        }
    }

    private static Reelrow seated(int row, int cells, int otherCells, int turn) {
        Reelrow x = new Reelrow();
        for (int i = 0; i <= 3; i++) {
            Due.fill(x, i, i == row ? new int[] {-1, 10, 20} : new int[] {15, 30});
        }
        x.setSize(row, cells);
        x.setSize((row + 1) % 4, otherCells);
        for (int i = 0; i <= 2; i++) {
            x.open(i, (i + turn) % 4, (i + turn / 4) % 3, 0);
        }
        for (int i = 0; i <= 1; i++) {
            int at = (i + turn) % 4;
            x.view(i, at, 0, Math.min(turn / 4, x.count(at, 0)));
        }
        return x;
    }

    private static boolean isCursorThere(Reelrow x, int cursor) {
        return !Stage.answer(x, y -> y.has(cursor, false)).equals("IllegalStateException");
    }

    private static boolean isViewThere(Reelrow x, int view) {
        return !Stage.answer(x, y -> y.viewText(view)).equals("IllegalStateException");
    }

    private static void callsByCursors() {
        byCursor("36 addBy", true, (x, cursor) -> x.addBy(cursor, 5));
        byCursor("36 addBy NOTHING", true, (x, cursor) -> x.addBy(cursor, -1));
        byCursor("37 removeBy", true, (x, cursor) -> x.removeBy(cursor));
        byCursor("37 removeBy -9", false, (x, cursor) -> x.removeBy(cursor));
    }

    // The cursor is on row 2, as are all with even numbers beside it, the views in turn.
    private static void byCursor(String what, boolean hasGone, NumberCall call) {
        for (int caller = 0; caller <= 2; caller++) {
            for (int turn = 0; turn < 4; turn++) {
                Reelrow x = Due.fill(Due.with(2, 10, 20, 30), 1, 10);
                for (int i = 0; i <= 2; i++) {
                    x.open(i, i == caller || (i + turn) % 2 == 0 ? 2 : 1, i == caller ? 1 : (i + turn) % 3, 0);
                }
                x.view(0, 1 + turn % 2, 0, 1);
                x.view(1, 1 + turn / 2, 0, 1);
                if (hasGone) {
                    x.go(caller, false);
                }
                call.on(x, caller);
                String whole = what + " by " + caller + ", turn " + turn;
                for (int i = 0; i <= 2; i++) {
                    boolean isSpared = i == caller || (i + turn) % 2 != 0;
                    DUE.is(whole + ": cursor " + i, isCursorThere(x, i), isSpared);
                }
                DUE.is(whole + ": view 0", isViewThere(x, 0), turn % 2 == 0);
                DUE.is(whole + ": view 1", isViewThere(x, 1), turn / 2 == 0);
            }
        }
        byCursorInnerViews(what, hasGone, call);
    }

    private static void byCursorInnerViews(String what, boolean hasGone, NumberCall call) {
        Reelrow x = Due.with(2, 10, 20, 30);
        x.open(0, 2, 1, 1);
        x.view(0, 2, 0, 3);
        x.inner(0, 2);
        if (hasGone) {
            x.go(0, false);
        }
        call.on(x, 0);
        DUE.is(what + ": view 0 with an inner one", isViewThere(x, 0), false);
        DUE.is(what + ": the inner one", isViewThere(x, 1), false);
        DUE.is(what + ": the cursor that called", isCursorThere(x, 0), true);
    }

    private static void callsByViews() {
        byView("44 viewAdd", (x, view) -> x.viewAdd(view, 0, 5));
        byView("44 viewAdd behind the last", (x, view) -> x.viewAdd(view, 2, 5));
        byView("44 viewAdd -9", (x, view) -> x.viewAdd(view, 3, 5));
        byView("44 viewAdd far above", (x, view) -> x.viewAdd(view, 40, 5));
        byView("45 viewRemove", (x, view) -> x.viewRemove(view, 1));
        byView("45 viewRemove -9", (x, view) -> x.viewRemove(view, 2));
        byView("45 viewRemove far above", (x, view) -> x.viewRemove(view, 40));
        byView("47 viewClear", (x, view) -> x.viewClear(view));
        byView("47 viewClear of an empty one", (x, view) -> {
            x.viewClear(view);
            return x.viewClear(view);
        });
    }

    private static void byView(String what, NumberCall call) {
        // On one row, view 1 is no part of view 0 though all its cells are that of it, too.
        byView(what, call, 0, 2, 2, false);
        byView(what, call, 1, 2, 2, false);
        byView(what, call, 0, 2, 1, false);
        byView(what, call, 0, 1, 2, false);
        byView(what, call, 1, 1, 2, false);
        byView(what, call, 1, 2, 1, false);
        byView(what, call, 0, 2, 2, true);
        byView(what, call, 1, 2, 2, true);
        byView(what, call, 0, 1, 1, true);
        byView(what, call, 1, 1, 1, true);
    }

    private static void byView(String what, NumberCall call, int caller, int rowOf0, int rowOf1, boolean isInner) {
        Reelrow x = Due.fill(Due.with(2, 10, 20, 30, 40), 1, 10, 20, 30);
        x.view(0, rowOf0, 0, 2);
        if (isInner) {
            x.inner(0, 2);
        } else {
            x.view(1, rowOf1, 0, 2);
        }
        int row = caller == 0 ? rowOf0 : rowOf1;
        for (int kind = 0; kind <= 2; kind++) {
            x.open(kind, kind == 1 ? 3 - row : row, kind, 0);
        }
        call.on(x, caller);
        String whole = what + " by view " + caller + " on rows " + rowOf0 + ", " + rowOf1 + (isInner ? ", inner" : "");
        boolean isApart = rowOf0 != rowOf1;
        DUE.is(whole + ": view 0", isViewThere(x, 0), caller == 0 || isApart || isInner);
        DUE.is(whole + ": view 1", isViewThere(x, 1), caller == 1 || isApart);
        for (int cursor = 0; cursor <= 2; cursor++) {
            DUE.is(whole + ": cursor " + cursor, isCursorThere(x, cursor), cursor == 1);
        }
    }

    private static void othersCutNothing() {
        leavesAllThere("6", x -> x.set(2, 0, 5));
        leavesAllThere("6 -9", x -> x.set(2, 40, 5));
        leavesAllThere("7", x -> x.setElementAt(2, 5, 0));
        leavesAllThere("7 -9", x -> x.setElementAt(2, 5, 40));
        leavesAllThere("31", x -> x.open(1, 2, 1, 2));
        leavesAllThere("31 -9", x -> x.open(1, 2, 1, 40));
        leavesAllThere("33", x -> x.go(1, true));
        leavesAllThere("35", x -> x.setBy(1, 5));
        leavesAllThere("38", x -> x.view(1, 2, 0, 6));
        leavesAllThere("38 -9", x -> x.view(0, 2, 0, 7));
        leavesAllThere("39", x -> x.inner(0, 4));
        leavesAllThere("39 -9", x -> x.inner(0, 5));
        leavesAllThere("43 by view 0", x -> x.viewSet(0, 0, 5));
        leavesAllThere("43 by view 1", x -> x.viewSet(1, 0, 5));
        leavesAllThere("43 -9", x -> x.viewSet(0, 40, 5));
        leavesAllThere("48", x -> x.knock());
        leavesAllThere("4 of the row that comes", x -> x.addAll(1, 2));
        leavesAllThere("5 of the row that comes", x -> x.addAllAt(1, 0, 2));
        leavesAllThere("11 of the row that is held against", x -> x.removeAll(1, 2));
        leavesAllThere("12 of the row that is held against", x -> x.retainAll(1, 2));
    }

    private static void leavesAllThere(String what, Stage.Call call) {
        Reelrow x = Stage.busy();
        call.on(x);
        for (int cursor = 0; cursor <= 2; cursor++) {
            DUE.is(what + " leaves cursor " + cursor, isCursorThere(x, cursor), true);
        }
        DUE.is(what + " leaves view 0", isViewThere(x, 0), true);
        DUE.is(what + " leaves view 1", isViewThere(x, 1), true);
    }

    private static void askingChangesNothing() {
        asked("19", x -> x.peek(2));
        asked("20", x -> x.search(2, 20));
        for (int how = 0; how <= 2; how++) {
            int asked = how;
            asked("21", x -> x.at(2, 1, asked / 2));
            asked("23", x -> x.find(2, 20, asked));
            asked("46 view 0", x -> x.viewFind(0, 20, asked));
            asked("46 view 1", x -> x.viewFind(1, 20, asked));
        }
        asked("22", x -> x.end(2, true));
        asked("24", x -> x.findFrom(2, 20, 1));
        asked("25", x -> x.findTo(2, 20, 4));
        asked("26", x -> x.containsAll(2, 0));
        asked("27", x -> x.areEqual(2, 0));
        for (int what = 0; what <= 3; what++) {
            int counted = what;
            asked("28", x -> x.count(2, counted));
            asked("40 view 0", x -> x.viewCount(0, counted));
            asked("40 view 1", x -> x.viewCount(1, counted));
        }
        asked("29 text", x -> x.text(2, false));
        asked("29 codes", x -> x.text(2, true));
        asked("30", x -> x.copyInto(2, 40));
        asked("32 on", x -> x.has(0, false));
        asked("32 back", x -> x.has(1, true));
        asked("34 on", x -> x.place(1, false));
        asked("34 back", x -> x.place(1, true));
        asked("41", x -> x.viewText(0));
        asked("42", x -> x.viewGet(1, 0));
        asked("49", Reelrow::isSound);
        asked("50", Reelrow::digest);
    }

    private static void asked(String what, Stage.Call call) {
        String first = Stage.answer(Stage.busy(), call);
        Reelrow x = Stage.busy();
        call.on(x);
        DUE.is(what + " tells the same again", Stage.answer(x, call), first);
        Stage.changesNothing(DUE, what, Stage::busy, call);
    }

    private static void goneViews() {
        for (int row = 1; row <= 2; row++) {
            Reelrow x = Stage.busy();
            x.view(0, row, 0, 2);
            DUE.is("38 view 0 anew: the inner one is gone", isViewThere(x, 1), false);
            x.inner(0, 1);
            DUE.is("38 and can be opened anew", x.viewCount(1, 0), 1);
            x.view(1, 2, 0, 1);
            x.view(0, row, 0, 0);
            DUE.is("38 view 0 anew: one that is none of it stays", isViewThere(x, 1), true);
        }
        Reelrow y = Stage.busy();
        y.view(1, 2, 1, 3);
        y.viewAdd(1, 0, 5);
        DUE.is("38 one that was inner is none any more", isViewThere(y, 0), false);
        Reelrow z = Stage.busy();
        z.view(1, 2, 1, 3);
        z.inner(1, 3);
        z.viewAdd(1, 0, 5);
        DUE.is("39 one that was none is inner", z.viewText(0), "[2/5, 0/5, null, 2/1, 99/9]");
        Reelrow v = Stage.busy();
        v.room(2, 0);
        v.view(0, 2, 0, 3);
        DUE.is("38 a lost inner one stays lost", isViewThere(v, 1), false);
        v.view(1, 2, 4, 6);
        v.view(0, 2, 1, 2);
        DUE.is("38 and is none of the new one", v.viewText(1), "[99/9, 0/0]");
    }

    private static void lostIsLostUntilOpenedAnew() {
        Reelrow x = Stage.busy();
        x.room(2, 0);
        x.room(2, 0);
        x.digest();
        for (int i = 0; i <= 2; i++) {
            DUE.is("lost cursor " + i, isCursorThere(x, i), false);
            x.open(i, 2, 1, 6);
            DUE.is("anew cursor " + i, x.go(i, true), 0);
        }
        for (int i = 0; i <= 1; i++) {
            DUE.is("lost view " + i, isViewThere(x, i), false);
            x.view(i, 2, 0, 1);
            DUE.is("anew view " + i, x.viewText(i), "[1/0]");
        }
        Reelrow y = Stage.busy();
        y.open(1, 2, 1, 3);
        DUE.is("31 anew it went over none yet", y.setBy(1, 5), -9);
        y.open(0, 2, 0, 0);
        DUE.is("31 anew, too", y.removeBy(0), -9);
    }
}
