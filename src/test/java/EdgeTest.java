import java.math.BigInteger;
import java.util.List;
import java.util.function.Supplier;

/** The least and the most that there can be: empty and full rows, whole and empty views, sums and checksums that wrap. */
public final class EdgeTest {
    private static final Due DUE = new Due("edges");
    private static final int NOTHING_WRAPS_AT = 7;

    public static void main(String[] args) {
        codesAndSameness();
        newObjects();
        bothWaysAreTheSame();
        upToThirty();
        fullRowsLetAllElse();
        putInMovesWhatIsBehind();
        takeOutMovesWhatIsBehind();
        sortKeepsTheSameInOrder();
        sums();
        texts();
        copies();
        ends();
        lookedForFromEitherEnd();
        rowsHeldAgainstRows();
        cursorsAtTheEnds();
        cursorsChangeOnTheirWay();
        viewsOfAll();
        viewsGrowAndShrink();
        checksumsWrap();
        knocksAreCounted();
        DUE.done();
    }

    private static String codes(Reelrow x, int row) {
        return x.text(row, true);
    }

    // 100 numbers with 10 marks, and NOTHING: each is the same as those of its number alone.
    private static void codesAndSameness() {
        for (int code = -1; code <= 999; code++) {
            Reelrow x = Due.with(0, 0);
            DUE.is("6 takes " + code, x.set(0, 0, code) != -9 && x.at(0, 0, 0) == code, true);
            int due = code < 0 ? 31 : 31 + code / 10;
            DUE.is("28 the number of " + code, x.count(0, 2), due);
            DUE.is("23 the same as itself", x.find(0, code, 0), 0);
            if (code >= 0) {
                int first = code / 10 * 10;
                DUE.is("23 the same as its first mark", x.find(0, first, 2), 1);
                DUE.is("23 the same as its last mark", x.find(0, first + 9, 2), 1);
                DUE.is("23 not the one ahead", x.find(0, first - 1, 2), 0);
                DUE.is("23 not the one behind", first == 990 ? 0 : x.find(0, first + 10, 2), 0);
                DUE.is("23 not NOTHING", x.find(0, -1, 2), 0);
                DUE.is("29 its text", x.text(0, false), "[" + code / 10 + "/" + code % 10 + "]");
            }
            DUE.is("29 its code", x.text(0, true), "" + code);
        }
    }

    private static void newObjects() {
        Reelrow x = new Reelrow();
        for (int row = 0; row <= 3; row++) {
            DUE.is("1 row " + row, x.count(row, 0) + " " + x.count(row, 1) + " " + x.count(row, 2), "0 1 1");
            DUE.is("1 as a stack " + row, x.count(row, 3), row >= 2 ? 1 : 0);
            DUE.is("1 texts of " + row, x.text(row, false) + x.text(row, true) + x.copyInto(row, 0), "[]");
            DUE.is("1 ends of " + row, x.end(row, false) + x.end(row, true), -18);
            DUE.is("1 all alike", x.areEqual(row, (row + 1) % 4) && x.containsAll(row, (row + 1) % 4), true);
        }
        DUE.is("1 sound", x.isSound(), true);
        DUE.is("1 a second one", new Reelrow().digest(), x.digest());
    }

    private static void bothWaysAreTheSame() {
        for (Supplier<Reelrow> stage : List.<Supplier<Reelrow>>of(Stage::busy, Stage::full, Reelrow::new)) {
            alike("2", stage, x -> x.add(2, 5, 0), x -> x.add(2, 5, 1));
            alike("3", stage, x -> x.insert(2, 3, 5, 0), x -> x.insert(2, 3, 5, 1));
            alike("3 -9", stage, x -> x.insert(2, 9, 5, 0), x -> x.insert(2, 9, 5, 1));
            alike("9", stage, x -> x.removeThing(2, 29, 0), x -> x.removeThing(2, 29, 1));
            alike("9 NOTHING", stage, x -> x.removeThing(2, -1, 0), x -> x.removeThing(2, -1, 1));
            alike("9 none", stage, x -> x.removeThing(2, 500, 0), x -> x.removeThing(2, 500, 1));
            alike("13", stage, x -> x.wipe(2, 0), x -> x.wipe(2, 1));
            alike("21", stage, x -> x.at(2, 1, 0), x -> x.at(2, 1, 1));
            alike("21 -9", stage, x -> x.at(2, 30, 0), x -> x.at(2, 30, 1));
        }
    }

    private static void alike(String what, Supplier<Reelrow> stage, Stage.Call one, Stage.Call other) {
        DUE.is(what + " tells the same by both ways", Stage.answer(stage.get(), one), Stage.answer(stage.get(), other));
        Stage.leaveAlike(DUE, what + " does the same by both ways", stage, one, other);
    }

    private static Reelrow sized(int row, int size) {
        Reelrow x = Due.with(row, 10, 20);
        x.setSize(row, size);
        return x;
    }

    // Each way for a cell to come, to 29 cells and to 30.
    private static void upToThirty() {
        for (int row = 0; row <= 3; row++) {
            int at = row;
            lastThatFits("2 add", at, x -> x.add(at, 5, 0), 30);
            lastThatFits("2 addElement", at, x -> x.add(at, -1, 1), 30);
            lastThatFits("3 at the end", at, x -> x.insert(at, 29, 5, 0), 30);
            lastThatFits("3 ahead", at, x -> x.insert(at, 0, 5, 1), 30);
            lastThatFits("4", at, x -> x.addAll(at, one(x, at)), true);
            lastThatFits("5 at the end", at, x -> x.addAllAt(at, 29, one(x, at)), 1);
            lastThatFits("5 ahead", at, x -> x.addAllAt(at, 0, one(x, at)), 1);
            lastThatFits("36 at the end", at, x -> opened(x, at, x.count(at, 0)).addBy(0, 5), 30);
            lastThatFits("36 ahead", at, x -> opened(x, at, 0).addBy(0, 5), 30);
            lastThatFits("44 by a whole view", at, x -> viewed(x, at).viewAdd(0, 29, 5), 30);
            lastThatFits("44 by an inner one", at, x -> viewed(x, at).viewAdd(1, 0, 5), 1);
            if (at >= 2) {
                lastThatFits("17", at, x -> x.push(at, 5), 5);
                lastThatFits("17 NOTHING", at, x -> x.push(at, -1), -1);
            }
        }
    }

    private static void lastThatFits(String what, int row, Stage.Call call, Object due) {
        Reelrow x = sized(row, 29);
        DUE.is(what + " comes to 29 of row " + row, call.on(x), due);
        DUE.is(what + ": 30", x.count(row, 0), 30);
        DUE.is(what + ": all sound", x.isSound(), true);
        DUE.is(what + " comes no more", Stage.answer(x, call), "IllegalStateException");
        DUE.is(what + ": still 30", x.count(row, 0), 30);
    }

    private static int one(Reelrow x, int row) {
        int other = (row + 1) % 4;
        x.setSize(other, 1);
        return other;
    }

    private static Reelrow opened(Reelrow x, int row, int place) {
        x.open(0, row, 1, place);
        return x;
    }

    private static Reelrow viewed(Reelrow x, int row) {
        x.view(0, row, 0, x.count(row, 0));
        x.inner(3, 3);
        return x;
    }

    // 30 and none, 0 and 30, 29 and two, 15 and 15, 15 and 16.
    private static void fullRowsLetAllElse() {
        Reelrow x = sized(1, 30);
        DUE.is("4 none to 30", x.addAll(1, 0), false);
        DUE.is("5 none to 30", x.addAllAt(1, 30, 0), 0);
        DUE.is("4 30 to none", x.addAll(0, 1), true);
        DUE.is("4 they are 30", x.count(0, 0), 30);
        DUE.is("27 both alike", x.areEqual(0, 1), true);
        DUE.badState("4 30 to 30", () -> x.addAll(0, 1));
        DUE.badState("5 30 to 30", () -> x.addAllAt(0, 0, 1));
        x.setSize(2, 1);
        DUE.badState("4 30 to one", () -> x.addAll(2, 1));
        DUE.badState("5 30 to one", () -> x.addAllAt(2, 1, 1));
        DUE.badState("4 one to 30", () -> x.addAll(1, 2));
        DUE.is("6 of 30", x.set(1, 29, 5), -1);
        DUE.is("16 of 30", x.sort(1, true), 20);
        DUE.is("14 30 to 30", x.setSize(1, 30), 30);
        DUE.is("15 room for more than 30", x.room(1, 40), 30);
        DUE.is("8 of 30", x.remove(1, 0), 20);
        DUE.is("2 again", x.add(1, 5, 0), 30);
        DUE.is("13 of 30", x.wipe(1, 0), 30);
        Reelrow y = sized(0, 15);
        y.setSize(3, 15);
        DUE.is("5 15 to 15", y.addAllAt(0, 7, 3), 1);
        y.setSize(0, 15);
        y.setSize(3, 16);
        DUE.badState("5 16 to 15", () -> y.addAllAt(0, 7, 3));
        DUE.badState("4 16 to 15", () -> y.addAll(0, 3));
        DUE.is("4 as it was", y.count(0, 0), 15);
    }

    private static void putInMovesWhatIsBehind() {
        for (int place = 0; place <= 3; place++) {
            String due = place == 0 ? "5 10 20 30" : place == 1 ? "10 5 20 30" : place == 2 ? "10 20 5 30" : "10 20 30 5";
            Reelrow x = Due.fill(Due.with(1, 10, 20, 30), 0, 5);
            x.insert(1, place, 5, 0);
            DUE.is("3 at " + place, codes(x, 1), due);
            x.remove(1, place);
            x.addAllAt(1, place, 0);
            DUE.is("5 at " + place, codes(x, 1), due);
            x.remove(1, place);
            x.open(0, 1, 1, place);
            x.addBy(0, 5);
            DUE.is("36 at " + place, codes(x, 1), due);
            DUE.is("36 stands behind it", x.place(0, false), place + 1);
            x.remove(1, place);
            x.view(0, 1, 0, 3);
            x.viewAdd(0, place, 5);
            DUE.is("44 at " + place, codes(x, 1), due);
            DUE.is("44 it is in the view", x.viewText(0), x.text(1, false));
        }
    }

    private static void takeOutMovesWhatIsBehind() {
        for (int place = 0; place <= 2; place++) {
            int at = place;
            String due = place == 0 ? "20 30" : place == 1 ? "10 30" : "10 20";
            takesOut("8", due, x -> x.remove(2, at));
            takesOut("10", due, x -> x.removeElementAt(2, at));
            takesOut("9", due, x -> x.removeThing(2, at * 10 + 19, 1));
            takesOut("45", due, x -> {
                x.view(1, 2, 0, 3);
                return x.viewRemove(1, at);
            });
            takesOut("47", due, x -> {
                x.view(1, 2, at, at + 1);
                return x.viewClear(1);
            });
            takesOut("37 on", due, x -> {
                x.open(0, 2, 1, at);
                x.go(0, false);
                return x.removeBy(0);
            });
            takesOut("37 back", due, x -> {
                x.open(0, 2, 1, at + 1);
                x.go(0, true);
                return x.removeBy(0);
            });
            takesOut("11", due, x -> x.removeAll(2, one(x, 2, at * 10 + 10)));
        }
        takesOut("12", "20", x -> x.retainAll(2, one(x, 2, 29)));
        takesOut("12 all", "", x -> x.retainAll(2, one(x, 2, 0)));
        takesOut("14", "10", x -> x.setSize(2, 1));
        takesOut("18", "10 20", x -> x.pop(2));
    }

    private static void takesOut(String what, String due, Stage.Call call) {
        Reelrow x = Due.with(2, 10, 20, 30);
        call.on(x);
        DUE.is(what + " takes out", codes(x, 2), due);
        DUE.is(what + " leaves a sound object", x.isSound(), true);
    }

    private static int one(Reelrow x, int row, int code) {
        int other = (row + 1) % 4;
        x.add(other, code, 0);
        return other;
    }

    private static void sortKeepsTheSameInOrder() {
        Reelrow x = new Reelrow();
        for (int i = 0; i < 30; i++) {
            x.add(0, i % 3 == 2 ? -1 : i % 3 * 990 + (9 - i / 3), 0);
        }
        x.addAll(1, 0);
        DUE.is("16 up", x.sort(0, false), -1);
        DUE.is("16 falling", x.sort(1, true), 999);
        StringBuilder up = new StringBuilder("-1");
        StringBuilder down = new StringBuilder("999");
        for (int i = 1; i < 30; i++) {
            up.append(' ').append(i < 10 ? -1 : i < 20 ? 19 - i : 999 + 20 - i);
            down.append(' ').append(i < 10 ? 999 - i : i < 20 ? 19 - i : -1);
        }
        DUE.is("16 all up", codes(x, 0), up.toString());
        DUE.is("16 all falling", codes(x, 1), down.toString());
        x.sort(0, false);
        DUE.is("16 sorted again", codes(x, 0), up.toString());
        x.sort(0, true);
        DUE.is("16 turned", codes(x, 0), down.toString());
        DUE.is("16 one cell", Due.with(3, -1).sort(3, true), -1);
        DUE.is("16 one cell, too", Due.with(3, 999).sort(3, false), 999);
    }

    private static int wrapped(BigInteger number) {
        return number.intValue();
    }

    // 31 to the 6th is the last that an int holds.
    private static void sums() {
        Reelrow x = new Reelrow();
        BigInteger due = BigInteger.ONE;
        DUE.is("28 of none", x.count(0, 2), 1);
        for (int i = 1; i <= 30; i++) {
            x.add(0, -1, 0);
            due = due.multiply(BigInteger.valueOf(31));
            DUE.is("28 " + i + " cells with NOTHING", x.count(0, 2), wrapped(due));
            DUE.is("28 wraps", due.bitLength() > 31, i >= NOTHING_WRAPS_AT);
        }
        x.setSize(0, 6);
        DUE.is("28 the last that does not wrap", x.count(0, 2), 887503681);
        x.setSize(0, 7);
        DUE.is("28 the first that wraps", x.count(0, 2), 1742810335);
        x.setSize(0, 8);
        DUE.is("28 below 0", x.count(0, 2), -1807454463);
        sumsOfViews();
        DUE.is("28 the mark does not count", Due.with(0, 19).count(0, 2), Due.with(0, 10).count(0, 2));
        DUE.is("28 number 0 counts as NOTHING", Due.with(0, 9).count(0, 2), Due.with(0, -1).count(0, 2));
        DUE.is("28 the order counts", Due.with(0, 10, 20).count(0, 2), (31 + 1) * 31 + 2);
    }

    private static void sumsOfViews() {
        Reelrow x = new Reelrow();
        BigInteger due = BigInteger.ONE;
        for (int i = 1; i <= 30; i++) {
            x.push(3, 999);
            x.view(1, 3, 0, i);
            due = due.multiply(BigInteger.valueOf(31)).add(BigInteger.valueOf(99));
            DUE.is("40 " + i + " cells of 99", x.viewCount(1, 2), wrapped(due));
            DUE.is("28 " + i + " cells of 99", x.count(3, 2), wrapped(due));
            x.view(0, 3, i, i);
            DUE.is("40 none of " + i, x.viewCount(0, 2), 1);
        }
    }

    private static void texts() {
        Reelrow x = new Reelrow();
        StringBuilder text = new StringBuilder();
        StringBuilder codes = new StringBuilder();
        for (int i = 0; i < 30; i++) {
            int code = i % 4 == 3 ? -1 : 999 - i;
            x.add(1, code, 0);
            text.append(i == 0 ? "" : ", ").append(code < 0 ? "null" : code / 10 + "/" + code % 10);
            codes.append(i == 0 ? "" : " ").append(code);
            DUE.is("29 text of " + (i + 1), x.text(1, false), "[" + text + "]");
            DUE.is("29 codes of " + (i + 1), x.text(1, true), codes.toString());
            DUE.is("30 just as many", x.copyInto(1, i + 1), codes.toString());
            x.view(0, 1, 0, i + 1);
            DUE.is("41 of all", x.viewText(0), "[" + text + "]");
        }
        x.view(0, 1, 29, 30);
        DUE.is("41 of the last", x.viewText(0), "[97/0]");
        x.view(0, 1, 30, 30);
        DUE.is("41 of none", x.viewText(0), "[]");
        DUE.is("29 one cell with NOTHING", Due.with(0, -1).text(0, false) + Due.with(0, -1).text(0, true), "[null]-1");
        DUE.is("29 two", Due.with(0, 0, 9).text(0, false), "[0/0, 0/9]");
    }

    private static void copies() {
        for (int cells = 0; cells <= 30; cells++) {
            Reelrow x = new Reelrow();
            x.setSize(3, cells);
            for (int size = -1; size <= 41; size++) {
                int places = size;
                String answer = Stage.answer(x, y -> y.copyInto(3, places));
                StringBuilder due = new StringBuilder();
                for (int i = 0; i < size; i++) {
                    due.append(i == 0 ? "" : " ").append(i < cells ? "-1" : "-");
                }
                boolean isLet = size >= cells && size <= 40;
                DUE.is("30 " + cells + " into " + size, answer, isLet ? due.toString() : "IllegalArgumentException");
            }
        }
    }

    private static void ends() {
        for (int row = 0; row <= 3; row++) {
            Reelrow x = Due.with(row, 7);
            DUE.is("22 one cell is both", x.end(row, false) * 10 + x.end(row, true), 77);
            x.add(row, -1, 0);
            DUE.is("22 the first of two", x.end(row, false), 7);
            DUE.is("22 NOTHING is the last", x.end(row, true), -1);
        }
        for (int row = 2; row <= 3; row++) {
            Reelrow x = Due.with(row, 10, 25);
            DUE.is("19 the top", x.peek(row), 25);
            DUE.is("20 the top", x.search(row, 20), 1);
            DUE.is("20 below it", x.search(row, 10), 2);
            x.setSize(row, 30);
            DUE.is("20 the last from the top", x.search(row, 10), 30);
            DUE.is("20 the top of 30", x.search(row, -1), 1);
            DUE.is("18 the top of 30", x.pop(row), -1);
            DUE.is("18 29 are left", x.count(row, 0), 29);
            DUE.is("28 3 of one that is not empty", x.count(row, 3), 0);
            DUE.is("28 3 of an empty one", x.wipe(row, 0) + x.count(row, 3), 30);
        }
    }

    private static void lookedForFromEitherEnd() {
        Reelrow x = new Reelrow();
        for (int i = 0; i < 30; i++) {
            x.add(2, i % 10 == 0 ? 50 + i / 10 : -1, 0);
        }
        for (int place = 0; place <= 40; place++) {
            int from = place == 0 ? 0 : place <= 10 ? 10 : place <= 20 ? 20 : -1;
            int to = place >= 30 ? -9 : place / 10 * 10;
            DUE.is("24 from " + place, x.findFrom(2, 55, place), from);
            DUE.is("25 up to " + place, x.findTo(2, 55, place), to);
            DUE.is("24 none from " + place, x.findFrom(2, 60, place), -1);
            DUE.is("25 none up to " + place, x.findTo(2, 60, place), place >= 30 ? -9 : -1);
            int nothing = place >= 30 ? -1 : place % 10 == 0 ? place + 1 : place;
            DUE.is("24 NOTHING from " + place, x.findFrom(2, -1, place), nothing);
        }
        DUE.is("25 NOTHING up to the first", x.findTo(2, -1, 0), -1);
        DUE.is("25 NOTHING up to the last", x.findTo(2, -1, 29), 29);
        DUE.is("25 up to NONE", x.findTo(2, 55, -1), -1);
        DUE.is("23 the first of 30", x.find(2, 59, 0), 0);
        DUE.is("23 the last of 30", x.find(2, -1, 1), 29);
        x.view(0, 2, 1, 30);
        DUE.is("46 the first by its own places", x.viewFind(0, 50, 0), 9);
        DUE.is("46 the last by its own places", x.viewFind(0, 50, 1), 19);
        DUE.is("46 NOTHING first and last", x.viewFind(0, -1, 0) * 100 + x.viewFind(0, -1, 1), 28);
        x.view(0, 2, 0, 20);
        x.inner(10, 11);
        DUE.is("46 the only one of an inner one", x.viewFind(1, 59, 0) + x.viewFind(1, 59, 1), 0);
        DUE.is("46 not what is behind it", x.viewFind(1, -1, 2), 0);
    }

    private static void rowsHeldAgainstRows() {
        held(new int[] {}, new int[] {}, true, true, true);
        held(new int[] {10}, new int[] {}, false, true, false);
        held(new int[] {10}, new int[] {19}, true, true, true);
        held(new int[] {-1}, new int[] {0}, false, false, false);
        held(new int[] {-1}, new int[] {-1}, true, true, true);
        held(new int[] {9}, new int[] {10}, false, false, false);
        held(new int[] {10, 20}, new int[] {20, 10}, false, true, true);
        held(new int[] {10, 20}, new int[] {11, 29}, true, true, true);
        held(new int[] {10, 20}, new int[] {10, 10, 10}, false, true, false);
        held(new int[] {10, 20}, new int[] {10, 20, 30}, false, false, true);
        held(new int[] {10, 20, 30}, new int[] {10, 20, 31}, true, true, true);
        held(new int[] {10, 20, 30}, new int[] {10, 20, 41}, false, false, false);
        held(new int[] {40, 20, 30}, new int[] {10, 20, 30}, false, false, false);
        Reelrow x = sized(0, 30);
        x.addAll(3, 0);
        DUE.is("27 30 and 30", x.areEqual(0, 3) && x.areEqual(3, 0), true);
        x.set(3, 29, 0);
        DUE.is("27 the last is another", x.areEqual(0, 3) || x.areEqual(3, 0), false);
        DUE.is("26 the last is not there", x.containsAll(0, 3), false);
        DUE.is("26 the other way", x.containsAll(3, 0), true);
        for (int row = 0; row <= 3; row++) {
            DUE.is("27 itself", x.areEqual(row, row), true);
            DUE.is("26 itself", x.containsAll(row, row), true);
        }
    }

    private static void held(int[] one, int[] other, boolean isAlike, boolean hasAll, boolean isAllHad) {
        for (int row = 0; row <= 3; row++) {
            int second = (row + 3) % 4;
            Reelrow x = Due.fill(Due.with(row, one), second, other);
            String what = x.text(row, false) + " and " + x.text(second, false);
            DUE.is("27 " + what, x.areEqual(row, second), isAlike);
            DUE.is("27 the other way " + what, x.areEqual(second, row), isAlike);
            DUE.is("26 " + what, x.containsAll(row, second), hasAll);
            DUE.is("26 the other way " + what, x.containsAll(second, row), isAllHad);
            x.view(0, row, 0, one.length);
            DUE.is("40 of " + what, x.viewCount(0, 3), 1);
        }
    }

    private static void cursorsAtTheEnds() {
        for (int kind = 0; kind <= 2; kind++) {
            Reelrow x = sized(3, 30);
            DUE.is("31 kind " + kind, x.open(kind, 3, kind, 0), 30);
            for (int i = 0; i < 30; i++) {
                DUE.is("32 on at " + i, x.has(kind, false), true);
                DUE.is("33 on at " + i, x.go(kind, false), x.at(3, i, 0));
            }
            DUE.is("32 at the end", x.has(kind, false), false);
            DUE.is("33 at the end", x.go(kind, false), -9);
            DUE.is("31 on an empty row", x.open(kind, 0, kind, 0), 0);
            DUE.is("32 on an empty row", x.has(kind, false), false);
        }
        Reelrow y = sized(3, 30);
        for (int place = 0; place <= 30; place++) {
            DUE.is("31 at " + place, y.open(1, 3, 1, place), 30 - place);
            DUE.is("34 on at " + place, y.place(1, false), place);
            DUE.is("34 back at " + place, y.place(1, true), place - 1);
            DUE.is("32 on at " + place, y.has(1, false), place < 30);
            DUE.is("32 back at " + place, y.has(1, true), place > 0);
            DUE.is("33 back at " + place, y.go(1, true), place == 0 ? -9 : y.at(3, place - 1, 0));
        }
        y.open(1, 0, 1, 0);
        DUE.is("34 of empty", y.place(1, false) * 10 + y.place(1, true), -1);
        DUE.is("32 of empty back", y.has(1, true), false);
    }

    private static void cursorsChangeOnTheirWay() {
        Reelrow x = Due.with(1, 10, 20, 30);
        x.open(0, 1, 1, 3);
        x.go(0, true);
        DUE.is("35 the last, after going back", x.setBy(0, 35), 3);
        x.go(0, false);
        DUE.is("35 the last, after going on", x.setBy(0, 36), 3);
        DUE.is("35 changed", codes(x, 1), "10 20 36");
        DUE.is("36 at the end", x.addBy(0, 40), 4);
        DUE.is("36 none on", x.has(0, false), false);
        DUE.is("33 back over what was put in", x.go(0, true), 40);
        DUE.is("37 that one", x.removeBy(0), 3);
        DUE.is("37 it stands at the end", x.place(0, false), 3);
        x.open(1, 1, 0, 0);
        for (int i = 2; i >= 0; i--) {
            x.go(1, false);
            DUE.is("37 one by one, left", x.removeBy(1), i);
        }
        DUE.is("37 none on", x.go(1, false), -9);
        DUE.is("37 empty", x.count(1, 1), 1);
        DUE.is("36 into an empty row", x.open(2, 1, 1, 0) + x.addBy(2, 5), 1);
        DUE.is("36 and it stands behind it", x.place(2, true), 0);
        Reelrow y = Due.with(0, 10, 20);
        y.open(0, 0, 1, 0);
        y.open(1, 0, 2, 0);
        y.go(0, false);
        y.setBy(0, 15);
        DUE.is("33 what a cell has now", y.go(1, false), 15);
        y.set(0, 0, 17);
        DUE.is("33 what a cell has now, back", y.go(0, true), 17);
    }

    private static void viewsOfAll() {
        for (int size = 0; size <= 30; size++) {
            Reelrow x = new Reelrow();
            x.setSize(2, size);
            for (int view = 0; view <= 1; view++) {
                x.view(view, 2, 0, size);
                DUE.is("40 all of " + size, x.viewCount(view, 3), 1);
                DUE.is("40 how many", x.viewCount(view, 0), size);
                DUE.is("40 empty", x.viewCount(view, 1), size == 0 ? 1 : 0);
                x.view(view, 2, Math.min(1, size), size);
                DUE.is("40 all but the first of " + size, x.viewCount(view, 3), size == 0 ? 1 : 0);
                x.view(view, 2, 0, Math.max(0, size - 1));
                DUE.is("40 all but the last of " + size, x.viewCount(view, 3), size == 0 ? 1 : 0);
            }
        }
        Reelrow y = Due.with(0, 10, 20);
        y.view(0, 0, 0, 2);
        y.inner(0, 2);
        DUE.is("40 an inner one of all", y.viewCount(1, 3), 1);
        y.inner(0, 1);
        DUE.is("40 an inner one of a part", y.viewCount(1, 3), 0);
        y.viewRemove(0, 1);
        DUE.is("40 all, when the other has gone", y.viewCount(0, 3), 1);
    }

    private static void viewsGrowAndShrink() {
        Reelrow x = Due.with(3, 10, 20, 30, 40, 50);
        x.view(0, 3, 1, 4);
        x.inner(1, 2);
        DUE.is("45 the only one", x.viewRemove(1, 0), 30);
        DUE.is("40 the inner one is empty", x.viewCount(1, 1), 1);
        DUE.is("44 into an empty one", x.viewAdd(1, 0, 31), 1);
        DUE.is("44 behind it", x.viewAdd(1, 1, 32), 2);
        DUE.is("44 view 0 has both", x.viewText(0), "[2/0, 3/1, 3/2, 4/0]");
        DUE.is("42 behind both", x.viewGet(0, 3), 40);
        DUE.is("47 of the inner one", x.viewClear(1), 4);
        DUE.is("47 view 0 has the rest", x.viewText(0), "[2/0, 4/0]");
        DUE.is("47 the row has the rest", codes(x, 3), "10 20 40 50");
        DUE.is("47 of view 0", x.viewClear(0), 2);
        DUE.is("47 what was about it", codes(x, 3), "10 50");
        DUE.is("44 and it takes again", x.viewAdd(0, 0, 25), 1);
        DUE.is("44 in its place", codes(x, 3), "10 25 50");
        x.view(0, 3, 0, 3);
        DUE.is("47 of all", x.viewClear(0), 0);
        DUE.is("40 it is the whole of the empty row", x.viewCount(0, 3), 1);
        for (int i = 1; i <= 30; i++) {
            DUE.is("44 up to 30", x.viewAdd(0, i / 2, i), i);
        }
        DUE.badState("44 no more", () -> x.viewAdd(0, 0, 5));
        DUE.is("40 it is the whole of the full row", x.viewCount(0, 0) + x.viewCount(0, 3), 31);
        DUE.is("47 of 30", x.viewClear(0), 0);
        DUE.is("49 sound", x.isSound(), true);
    }

    private static BigInteger folded(BigInteger d, long v) {
        return d.multiply(BigInteger.valueOf(31)).add(BigInteger.valueOf(v));
    }

    // With 30 cells of 99 in each row: by exact numbers that are cut to 64 bits at the end alone.
    private static void checksumsWrap() {
        Reelrow x = new Reelrow();
        BigInteger sum = BigInteger.ONE;
        for (int i = 0; i < 30; i++) {
            sum = folded(sum, 99);
            for (int row = 0; row <= 3; row++) {
                x.add(row, 999, 0);
            }
        }
        x.view(0, 1, 0, 30);
        x.open(1, 2, 1, 30);
        BigInteger d = BigInteger.valueOf(7701);
        for (int row = 0; row <= 3; row++) {
            d = folded(folded(folded(folded(d, 30), 0), sum.intValue()), 0);
            for (int i = 0; i < 30; i++) {
                d = folded(d, 999);
            }
            d = folded(folded(folded(folded(d, 119), 30 * 4 + 29 * 2 + 2), 999), 999);
            d = folded(folded(folded(folded(folded(d, 0), 29), 1), 1), 1);
        }
        d = folded(folded(folded(folded(folded(d, 999), 999), 2), 0), 2);
        d = folded(folded(folded(folded(folded(d, 30), 0), sum.intValue()), 1), 30 * 4 + 29 * 2 + 2);
        d = folded(folded(d, -1), 1);
        DUE.is("50 has wrapped", d.bitLength() > 64, true);
        DUE.is("50 wraps", x.digest(), d.longValue());
    }

    private static void knocksAreCounted() {
        Reelrow x = Stage.full();
        for (int i = 1; i <= 100; i++) {
            DUE.badState("48 refused for what is full", () -> x.add(2, 5, 0));
            DUE.is("48 the " + i + "th", x.knock(), i);
        }
        Reelrow y = Stage.full();
        String seen = Stage.seen(y);
        y.knock();
        DUE.is("48 leaves all as it was", Stage.seen(y), seen);
    }
}
