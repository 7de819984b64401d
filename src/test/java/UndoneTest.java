import java.util.function.Supplier;

/** Where -9 is told: the nearest call that can be done and the first that cannot; -9 changes nothing but what CUTS loses. */
public final class UndoneTest {
    private static final Due DUE = new Due("undone");
    private static final int END = Stage.CELLS;

    public static void main(String[] args) {
        putIn();
        change();
        takeOut();
        emptyRows();
        ask();
        openCursors();
        go();
        changeByCursor();
        takeOutByCursor();
        openViews();
        openInner();
        viewPlaces();
        putInByView();
        takeOutByView();
        whatIsNoMinus9();
        DUE.done();
    }

    private static void is(String what, Stage.Call call, Object due) {
        DUE.is(what, call.on(Stage.busy()), due);
    }

    /** Of a call that is not marked CUTS. */
    private static void undone(String what, Supplier<Reelrow> stage, Stage.Call call) {
        DUE.is(what, call.on(stage.get()), -9);
        Stage.changesNothing(DUE, what, stage, call);
    }

    /** Of a call on row 2 that is marked CUTS: room() cuts and leaves all else as it is. */
    private static void undoneAndCuts(String what, Supplier<Reelrow> stage, Stage.Call call) {
        DUE.is(what, call.on(stage.get()), -9);
        Stage.leaveAlike(DUE, what + " cuts alone", stage, call, x -> x.room(2, 0));
    }

    private static void putIn() {
        is("3 at the place behind all", x -> x.insert(2, END, 5, 0), END + 1);
        undoneAndCuts("3 one place further", Stage::busy, x -> x.insert(2, END + 1, 5, 0));
        undoneAndCuts("3 one place further, too", Stage::busy, x -> x.insert(2, END + 1, 5, 1));
        undoneAndCuts("3 at the greatest place", Stage::busy, x -> x.insert(2, 40, 5, 0));
        is("5 at the place behind all", x -> x.addAllAt(2, END, 0), 1);
        is("5 none, at the place behind all", x -> x.addAllAt(2, END, 3), 0);
        undoneAndCuts("5 one place further", Stage::busy, x -> x.addAllAt(2, END + 1, 0));
        undoneAndCuts("5 none, one place further", Stage::busy, x -> x.addAllAt(2, END + 1, 3));
        undoneAndCuts("5 at the greatest place", Stage::busy, x -> x.addAllAt(2, 40, 0));
        is("5 none into a full row, behind all", x -> {
            x.setSize(2, 30);
            return x.addAllAt(2, 30, 3);
        }, 0);
        undoneAndCuts("5 none into a full row, one place further", Stage::full, x -> x.addAllAt(2, 31, 3));
    }

    private static void change() {
        is("6 the last place", x -> x.set(2, END - 1, 5), 0);
        undone("6 the place behind all", Stage::busy, x -> x.set(2, END, 5));
        undone("6 the greatest place", Stage::busy, x -> x.set(2, 40, 5));
        undone("6 of a full row", Stage::full, x -> x.set(2, 30, 5));
        is("7 the last place", x -> x.setElementAt(2, 5, END - 1), END);
        undone("7 the place behind all", Stage::busy, x -> x.setElementAt(2, 5, END));
        undone("7 the greatest place", Stage::busy, x -> x.setElementAt(2, 5, 40));
        undone("7 of a full row", Stage::full, x -> x.setElementAt(2, 5, 30));
        DUE.is("6 the last of 30", Stage.full().set(2, 29, 5), -1);
        DUE.is("7 the last of 30", Stage.full().setElementAt(2, 5, 29), 30);
    }

    private static void takeOut() {
        is("8 the last place", x -> x.remove(2, END - 1), 0);
        undoneAndCuts("8 the place behind all", Stage::busy, x -> x.remove(2, END));
        undoneAndCuts("8 the greatest place", Stage::busy, x -> x.remove(2, 40));
        undoneAndCuts("8 of a full row", Stage::full, x -> x.remove(2, 30));
        is("10 the last place", x -> x.removeElementAt(2, END - 1), END - 1);
        undoneAndCuts("10 the place behind all", Stage::busy, x -> x.removeElementAt(2, END));
        undoneAndCuts("10 the greatest place", Stage::busy, x -> x.removeElementAt(2, 40));
        undoneAndCuts("10 of a full row", Stage::full, x -> x.removeElementAt(2, 30));
        DUE.is("8 the last of 30", Stage.full().remove(2, 29), -1);
        DUE.is("10 the last of 30", Stage.full().removeElementAt(2, 29), 29);
    }

    /** Row 2 is empty, with all cursors and views on it. */
    private static Reelrow empty() {
        Reelrow x = Due.with(0, 10);
        for (int kind = 0; kind <= 2; kind++) {
            x.open(kind, 2, kind, 0);
        }
        x.view(0, 2, 0, 0);
        x.inner(0, 0);
        return x;
    }

    private static void emptyRows() {
        undoneAndCuts("3 into empty at 1", UndoneTest::empty, x -> x.insert(2, 1, 5, 0));
        undoneAndCuts("5 into empty at 1", UndoneTest::empty, x -> x.addAllAt(2, 1, 0));
        undone("6 of empty", UndoneTest::empty, x -> x.set(2, 0, 5));
        undone("7 of empty", UndoneTest::empty, x -> x.setElementAt(2, 5, 0));
        undoneAndCuts("8 of empty", UndoneTest::empty, x -> x.remove(2, 0));
        undoneAndCuts("10 of empty", UndoneTest::empty, x -> x.removeElementAt(2, 0));
        undoneAndCuts("16 of empty", UndoneTest::empty, x -> x.sort(2, false));
        undoneAndCuts("16 of empty, falling", UndoneTest::empty, x -> x.sort(2, true));
        undoneAndCuts("18 of empty", UndoneTest::empty, x -> x.pop(2));
        undone("19 of empty", UndoneTest::empty, x -> x.peek(2));
        undone("21 of empty", UndoneTest::empty, x -> x.at(2, 0, 0));
        undone("22 the first of empty", UndoneTest::empty, x -> x.end(2, false));
        undone("22 the last of empty", UndoneTest::empty, x -> x.end(2, true));
        undone("25 of empty", UndoneTest::empty, x -> x.findTo(2, 5, 0));
        undone("31 on empty at 1", UndoneTest::empty, x -> x.open(1, 2, 1, 1));
        undone("33 on in empty", UndoneTest::empty, x -> x.go(0, false));
        undone("33 back in empty", UndoneTest::empty, x -> x.go(1, true));
        undone("38 of empty to 1", UndoneTest::empty, x -> x.view(0, 2, 0, 1));
        undone("39 of empty to 1", UndoneTest::empty, x -> x.inner(0, 1));
        undone("42 of empty", UndoneTest::empty, x -> x.viewGet(0, 0));
        undone("43 of empty", UndoneTest::empty, x -> x.viewSet(1, 0, 5));
        for (int row = 0; row <= 3; row++) {
            int asked = row;
            DUE.is("16 of empty row " + row, new Reelrow().sort(row, false), -9);
            DUE.is("22 of empty row " + row, Stage.answer(new Reelrow(), x -> x.end(asked, true)), "-9");
        }
    }

    private static void ask() {
        is("21 the last place", x -> x.at(2, END - 1, 0), 0);
        is("21 the last place, by get()", x -> x.at(2, END - 1, 1), 0);
        undone("21 the place behind all", Stage::busy, x -> x.at(2, END, 0));
        undone("21 the place behind all, by get()", Stage::busy, x -> x.at(2, END, 1));
        undone("21 the greatest place", Stage::busy, x -> x.at(2, 40, 0));
        undone("21 of a full row", Stage::full, x -> x.at(2, 30, 0));
        DUE.is("21 the last of 30", Stage.full().at(2, 29, 0), -1);
        is("25 up to the last place", x -> x.findTo(2, 9, END - 1), END - 1);
        undone("25 up to the place behind all", Stage::busy, x -> x.findTo(2, 9, END));
        undone("25 up to the greatest place", Stage::busy, x -> x.findTo(2, 9, 40));
        undone("25 in a full row", Stage::full, x -> x.findTo(2, 9, 30));
        DUE.is("25 the last of 30", Stage.full().findTo(2, -1, 29), 29);
    }

    private static void openCursors() {
        is("31 at the end", x -> x.open(1, 2, 1, END), 0);
        undone("31 behind the end", Stage::busy, x -> x.open(1, 2, 1, END + 1));
        undone("31 at the greatest place", Stage::busy, x -> x.open(0, 2, 1, 40));
        undone("31 on another row", Stage::busy, x -> x.open(1, 3, 1, 1));
        undone("31 one that is not there", Reelrow::new, x -> x.open(0, 0, 1, 1));
        DUE.is("31 at the end of 30", Stage.full().open(1, 2, 1, 30), 0);
        undone("31 behind the end of 30", Stage::full, x -> x.open(1, 2, 1, 31));
        for (int kind = 0; kind <= 2; kind += 2) {
            int asked = kind;
            is("31 the place does not matter to the kind " + kind, x -> x.open(1, 2, asked, 40), END);
            is("31 it stands ahead of all", x -> {
                x.open(1, 2, asked, 40);
                return x.go(1, false);
            }, 10);
        }
    }

    private static void go() {
        for (int kind = 0; kind <= 2; kind++) {
            int asked = kind;
            Supplier<Reelrow> atEnd = () -> {
                Reelrow x = Stage.busy();
                x.open(asked, 2, asked, 0);
                for (int i = 0; i < END; i++) {
                    x.go(asked, false);
                }
                return x;
            };
            DUE.is("33 kind " + kind + " has none on", atEnd.get().has(kind, false), false);
            undone("33 on at the end of kind " + kind, atEnd, x -> x.go(asked, false));
        }
        Supplier<Reelrow> atStart = () -> {
            Reelrow x = Stage.busy();
            x.go(1, true);
            x.go(1, true);
            return x;
        };
        DUE.is("33 has none back", atStart.get().has(1, true), false);
        undone("33 back ahead of all", atStart, x -> x.go(1, true));
        DUE.is("33 still on", atStart.get().go(1, false), 10);
    }

    private static void changeByCursor() {
        Supplier<Reelrow> opened = () -> {
            Reelrow x = Stage.busy();
            x.open(1, 2, 1, 2);
            return x;
        };
        undone("35 over none yet", opened, x -> x.setBy(1, 5));
        undone("35 over none, as it told -9", UndoneTest::empty, x -> {
            x.go(1, false);
            x.go(1, true);
            return x.setBy(1, 5);
        });
        undone("35 put in behind that", afterPutIn(), x -> x.setBy(1, 5));
        undone("35 took out behind that", afterTakeOut(), x -> x.setBy(1, 5));
        DUE.is("35 over one again", Stage.answer(afterPutIn().get(), x -> x.go(1, true) + x.setBy(1, 5)), "" + (600 + END + 1));
        DUE.is("35 over one again, too", Stage.answer(afterTakeOut().get(), x -> x.go(1, false) + x.setBy(1, 5)),
                "" + (-1 + END - 1));
    }

    private static Supplier<Reelrow> afterPutIn() {
        return () -> {
            Reelrow x = Stage.busy();
            x.addBy(1, 600);
            return x;
        };
    }

    private static Supplier<Reelrow> afterTakeOut() {
        return () -> {
            Reelrow x = Stage.busy();
            x.open(1, 2, 1, 1);
            x.go(1, false);
            x.removeBy(1);
            return x;
        };
    }

    // The cursor that calls is the only one that a call of it spares; so these have no other one, and no view.
    private static void takeOutByCursor() {
        for (int kind = 0; kind <= 1; kind++) {
            int asked = kind;
            Supplier<Reelrow> opened = () -> {
                Reelrow x = Due.with(2, 10, 20, 30);
                x.open(1, 2, asked, 0);
                return x;
            };
            undone("37 over none yet, kind " + kind, opened, x -> x.removeBy(1));
            undone("37 took out behind that, kind " + kind, () -> {
                Reelrow x = opened.get();
                x.go(1, false);
                x.go(1, false);
                x.removeBy(1);
                return x;
            }, x -> x.removeBy(1));
        }
        undone("37 put in behind that", () -> {
            Reelrow x = Due.with(2, 10, 20, 30);
            x.open(1, 2, 1, 0);
            x.go(1, false);
            x.addBy(1, 40);
            return x;
        }, x -> x.removeBy(1));
        Reelrow x = Due.with(2, 10, 20);
        x.open(0, 2, 0, 0);
        x.go(0, false);
        x.go(0, false);
        DUE.is("37 on at the end", x.go(0, false), -9);
        DUE.is("37 what it went over last, all the same", x.removeBy(0), 1);
        DUE.is("37 that one", x.text(2, true), "10");
    }

    private static void openViews() {
        for (int view = 0; view <= 1; view++) {
            int asked = view;
            is("38 all of it", x -> x.view(asked, 2, 0, END), END);
            is("38 none at the end", x -> x.view(asked, 2, END, END), 0);
            is("38 none ahead of all", x -> x.view(asked, 2, 0, 0), 0);
            undone("38 to behind the end", Stage::busy, x -> x.view(asked, 2, 0, END + 1));
            undone("38 none behind the end", Stage::busy, x -> x.view(asked, 2, END + 1, END + 1));
            undone("38 to the greatest place", Stage::busy, x -> x.view(asked, 2, 40, 40));
            undone("38 from one above to", Stage::busy, x -> x.view(asked, 2, 3, 2));
            undone("38 from far above to", Stage::busy, x -> x.view(asked, 2, 40, 0));
            undone("38 on another row", Stage::busy, x -> x.view(asked, 3, 0, 1));
            undone("38 one that is not there", Reelrow::new, x -> x.view(asked, 0, 0, 1));
            DUE.is("38 all 30", Stage.full().view(view, 2, 0, 30), 30);
            undone("38 to 31", Stage::full, x -> x.view(asked, 2, 0, 31));
        }
    }

    private static void openInner() {
        is("39 all of it", x -> x.inner(0, 4), 4);
        is("39 none at the end", x -> x.inner(4, 4), 0);
        is("39 none ahead of all", x -> x.inner(0, 0), 0);
        undone("39 to behind the end of view 0, not of the row", Stage::busy, x -> x.inner(0, 5));
        undone("39 none behind the end of view 0", Stage::busy, x -> x.inner(5, 5));
        undone("39 to the greatest place", Stage::busy, x -> x.inner(0, 40));
        undone("39 from one above to", Stage::busy, x -> x.inner(3, 2));
        undone("39 from far above to", Stage::busy, x -> x.inner(40, 0));
        undone("39 one that is not there", () -> {
            Reelrow x = Due.with(0, 10, 20);
            x.view(0, 0, 0, 1);
            return x;
        }, x -> x.inner(0, 2));
    }

    // View 0 has four cells, view 1 two of them; the row has some behind both.
    private static void viewPlaces() {
        is("42 the last of view 0", x -> x.viewGet(0, 3), 999);
        is("42 the last of view 1", x -> x.viewGet(1, 1), 21);
        is("43 the last of view 0", x -> x.viewSet(0, 3, 5), 999);
        is("43 the last of view 1", x -> x.viewSet(1, 1, 5), 21);
        undone("42 behind the end of view 0", Stage::busy, x -> x.viewGet(0, 4));
        undone("42 behind the end of view 1", Stage::busy, x -> x.viewGet(1, 2));
        undone("43 behind the end of view 0", Stage::busy, x -> x.viewSet(0, 4, 5));
        undone("43 behind the end of view 1", Stage::busy, x -> x.viewSet(1, 2, 5));
        for (int view = 0; view <= 1; view++) {
            int asked = view;
            undone("42 the greatest place of view " + view, Stage::busy, x -> x.viewGet(asked, 40));
            undone("43 the greatest place of view " + view, Stage::busy, x -> x.viewSet(asked, 40, 5));
        }
    }

    private static void putInByView() {
        is("44 behind the last of view 0", x -> x.viewAdd(0, 4, 5), 5);
        is("44 behind the last of view 1", x -> x.viewAdd(1, 2, 5), 3);
        for (int place : new int[] {5, 40}) {
            undoneByOuter("44 view 0 at " + place, x -> x.viewAdd(0, place, 5));
        }
        for (int place : new int[] {3, 4, 40}) {
            undoneByInner("44 view 1 at " + place, x -> x.viewAdd(1, place, 5));
        }
    }

    private static void takeOutByView() {
        is("45 the last of view 0", x -> x.viewRemove(0, 3), 999);
        is("45 the last of view 1", x -> x.viewRemove(1, 1), 21);
        for (int place : new int[] {4, 5, 40}) {
            undoneByOuter("45 view 0 at " + place, x -> x.viewRemove(0, place));
        }
        for (int place : new int[] {2, 3, 40}) {
            undoneByInner("45 view 1 at " + place, x -> x.viewRemove(1, place));
        }
    }

    private static void undoneByOuter(String what, Stage.Call call) {
        Reelrow x = Stage.busy();
        DUE.is(what, call.on(x), -9);
        rowIsAsItWas(what, x);
        DUE.is(what + ": view 0 is there", x.viewText(0), "[2/5, null, 2/1, 99/9]");
        DUE.badState(what + ": view 1 is lost", () -> x.viewText(1));
    }

    private static void undoneByInner(String what, Stage.Call call) {
        Reelrow x = Stage.busy();
        DUE.is(what, call.on(x), -9);
        rowIsAsItWas(what, x);
        DUE.is(what + ": view 0 is there", x.viewText(0), "[2/5, null, 2/1, 99/9]");
        DUE.is(what + ": view 1 is there", x.viewText(1), "[null, 2/1]");
    }

    private static void rowIsAsItWas(String what, Reelrow x) {
        DUE.is(what + ": nothing is changed", x.text(2, true), "10 25 -1 21 999 0");
        for (int cursor = 0; cursor <= 2; cursor++) {
            int asked = cursor;
            DUE.badState(what + ": cursor " + cursor + " is lost", () -> x.has(asked, false));
        }
    }

    // Where NONE, NOTHING's own code or an answer of another kind is told and not -9.
    private static void whatIsNoMinus9() {
        is("24 from the place behind all", x -> x.findFrom(2, 9, END), -1);
        is("24 from the greatest place", x -> x.findFrom(2, -1, 40), -1);
        is("24 in empty", x -> x.findFrom(3, -1, 0), -1);
        is("25 up to NONE", x -> x.findTo(2, 10, -1), -1);
        is("25 in empty up to NONE", x -> x.findTo(3, -1, -1), -1);
        is("23 the first in empty", x -> x.find(3, -1, 0), -1);
        is("23 the last in empty", x -> x.find(3, -1, 1), -1);
        is("23 whether in empty", x -> x.find(3, -1, 2), 0);
        is("20 in empty", x -> x.search(3, -1), -1);
        is("9 in empty", x -> x.removeThing(3, -1, 0), false);
        is("13 of empty", x -> x.wipe(3, 0), 0);
        is("14 of empty to none", x -> x.setSize(3, 0), 0);
        is("15 of empty", x -> x.room(3, -1), 0);
        is("8 a cell with NOTHING", x -> x.remove(2, 2), -1);
        is("18 a cell with NOTHING", x -> {
            x.push(2, -1);
            return x.pop(2);
        }, -1);
        is("46 the first in an empty view", x -> {
            x.view(0, 2, 2, 2);
            return x.viewFind(0, -1, 0) * 100 + x.viewFind(0, -1, 1) * 10 + x.viewFind(0, -1, 2);
        }, -110);
        is("47 an empty view", x -> {
            x.view(0, 2, 2, 2);
            return x.viewClear(0);
        }, END);
    }
}
