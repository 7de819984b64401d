/** Promises 1 to 7: a new object, and what comes. */
public final class ComingTest {
    private static final Due DUE = new Due("coming");

    public static void main(String[] args) {
        promise1NewObject();
        promise2Add();
        promise3Insert();
        promise4AddAll();
        promise5AddAllAt();
        promise6Set();
        promise7SetElementAt();
        DUE.done();
    }

    private static void promise1NewObject() {
        Reelrow x = new Reelrow();
        for (int row = 0; row <= 3; row++) {
            DUE.is("1 count of " + row, x.count(row, 0), 0);
            DUE.is("1 text of " + row, x.text(row, false), "[]");
        }
        for (int cursor = 0; cursor <= 2; cursor++) {
            int asked = cursor;
            DUE.badState("1 has of " + cursor, () -> x.has(asked, false));
        }
        DUE.badState("1 view 0", () -> x.viewText(0));
        DUE.badState("1 view 1", () -> x.viewText(1));
        DUE.is("1 knock", x.knock(), 1);
        Reelrow y = Due.with(0, 5);
        DUE.is("1 another object is another", x.count(0, 0) + y.count(0, 0), 1);
    }

    private static void promise2Add() {
        Reelrow x = new Reelrow();
        DUE.is("2 first", x.add(3, 999, 0), 1);
        DUE.is("2 second", x.add(3, -1, 1), 2);
        DUE.is("2 third", x.add(3, 0, 1), 3);
        DUE.is("2 in order", x.text(3, true), "999 -1 0");
        DUE.is("2 other rows", x.count(2, 0), 0);
        DUE.outOfBounds("2 row -1", () -> x.add(-1, 1, 0));
        DUE.outOfBounds("2 row 4, ahead of the others", () -> x.add(4, 1000, 2));
        DUE.badArgument("2 code -2", () -> x.add(0, -2, 0));
        DUE.badArgument("2 code 1000", () -> x.add(0, 1000, 0));
        DUE.badArgument("2 how -1", () -> x.add(0, 1, -1));
        DUE.badArgument("2 how 2", () -> x.add(0, 1, 2));
        x.setSize(0, 29);
        DUE.is("2 the last that fits", x.add(0, 7, 1), 30);
        DUE.badState("2 full", () -> x.add(0, 7, 0));
        DUE.badArgument("2 full, but code ahead", () -> x.add(0, 1000, 0));
        DUE.is("2 a throw changes nothing", x.count(0, 0), 30);
    }

    private static void promise3Insert() {
        Reelrow x = new Reelrow();
        DUE.is("3 into empty", x.insert(1, 0, 10, 0), 1);
        DUE.is("3 at the end", x.insert(1, 1, 30, 1), 2);
        DUE.is("3 between", x.insert(1, 1, 20, 0), 3);
        DUE.is("3 ahead", x.insert(1, 0, -1, 1), 4);
        DUE.is("3 order", x.text(1, true), "-1 10 20 30");
        DUE.is("3 above", x.insert(1, 5, 1, 0), -9);
        DUE.is("3 far above", x.insert(1, 40, 1, 0), -9);
        DUE.is("3 unchanged", x.text(1, true), "-1 10 20 30");
        DUE.outOfBounds("3 row 4", () -> x.insert(4, 41, 1, 0));
        DUE.outOfBounds("3 row -1", () -> x.insert(-1, 0, 1, 0));
        DUE.badArgument("3 place 41", () -> x.insert(1, 41, 1, 0));
        DUE.badArgument("3 place -1", () -> x.insert(1, -1, 1, 0));
        DUE.badArgument("3 code 1000", () -> x.insert(1, 0, 1000, 0));
        DUE.badArgument("3 code -2", () -> x.insert(1, 0, -2, 0));
        DUE.badArgument("3 how 2", () -> x.insert(1, 0, 1, 2));
        DUE.badArgument("3 how -1", () -> x.insert(1, 0, 1, -1));
        x.setSize(1, 29);
        DUE.is("3 the last that fits", x.insert(1, 0, 77, 0), 30);
        DUE.is("3 the last moved on", x.at(1, 4, 0), 30);
        DUE.badState("3 full", () -> x.insert(1, 0, 1, 0));
        DUE.badState("3 full goes ahead of -9", () -> x.insert(1, 40, 1, 0));
        DUE.badArgument("3 full, place ahead", () -> x.insert(1, 41, 1, 0));
    }

    private static void promise4AddAll() {
        Reelrow x = Due.fill(Due.with(0, 10, 20), 2, 30, -1, 40);
        DUE.is("4 some came", x.addAll(0, 2), true);
        DUE.is("4 in order", x.text(0, true), "10 20 30 -1 40");
        DUE.is("4 the other stays", x.text(2, true), "30 -1 40");
        DUE.is("4 none came", x.addAll(0, 1), false);
        DUE.is("4 into empty", x.addAll(1, 0), true);
        x.add(3, 50, 0);
        DUE.is("4 one came", x.addAll(0, 3), true);
        DUE.is("4 behind all", x.end(0, true), 50);
        DUE.outOfBounds("4 row", () -> x.addAll(4, 0));
        DUE.outOfBounds("4 row below", () -> x.addAll(-1, 0));
        DUE.outOfBounds("4 other", () -> x.addAll(0, 4));
        DUE.outOfBounds("4 other below", () -> x.addAll(0, -1));
        DUE.outOfBounds("4 both, not one row", () -> x.addAll(4, 4));
        DUE.badArgument("4 one row", () -> x.addAll(0, 0));
        x.setSize(0, 27);
        DUE.is("4 just fits", x.addAll(0, 2), true);
        DUE.is("4 now full", x.count(0, 0), 30);
        DUE.badState("4 too many", () -> x.addAll(0, 2));
        x.setSize(0, 28);
        DUE.badState("4 one too many", () -> x.addAll(0, 2));
        DUE.is("4 unchanged", x.count(0, 0), 28);
        x.setSize(0, 30);
        x.wipe(3, 0);
        DUE.is("4 nothing comes to a full one", x.addAll(0, 3), false);
        DUE.badArgument("4 one full row", () -> x.addAll(0, 0));
    }

    private static void promise5AddAllAt() {
        Reelrow x = Due.fill(Due.with(0, 10, 20), 3, 30, 40);
        DUE.is("5 between", x.addAllAt(0, 1, 3), 1);
        DUE.is("5 in order", x.text(0, true), "10 30 40 20");
        DUE.is("5 at the end", x.addAllAt(0, 4, 3), 1);
        DUE.is("5 ahead", x.addAllAt(0, 0, 3), 1);
        DUE.is("5 order", x.text(0, true), "30 40 10 30 40 20 30 40");
        DUE.is("5 above", x.addAllAt(0, 9, 3), -9);
        DUE.is("5 none came", x.addAllAt(0, 8, 1), 0);
        DUE.is("5 none came, above", x.addAllAt(0, 9, 1), -9);
        DUE.is("5 unchanged", x.count(0, 0), 8);
        x.add(2, 50, 0);
        DUE.is("5 one came", x.addAllAt(1, 0, 2), 1);
        DUE.is("5 it is there", x.text(1, true), "50");
        DUE.outOfBounds("5 row", () -> x.addAllAt(4, 0, 3));
        DUE.outOfBounds("5 other", () -> x.addAllAt(0, 41, -1));
        DUE.badArgument("5 one row", () -> x.addAllAt(0, 0, 0));
        DUE.badArgument("5 place 41", () -> x.addAllAt(0, 41, 3));
        DUE.badArgument("5 place -1", () -> x.addAllAt(0, -1, 3));
        x.setSize(0, 29);
        DUE.badState("5 too many", () -> x.addAllAt(0, 0, 3));
        DUE.badState("5 too many goes ahead of -9", () -> x.addAllAt(0, 40, 3));
        DUE.badArgument("5 place goes ahead of too many", () -> x.addAllAt(0, 41, 3));
        x.setSize(0, 28);
        DUE.is("5 just fits", x.addAllAt(0, 28, 3), 1);
        DUE.is("5 full", x.count(0, 0), 30);
    }

    private static void promise6Set() {
        Reelrow x = Due.with(2, 10, -1, 30);
        DUE.is("6 before", x.set(2, 0, 999), 10);
        DUE.is("6 nothing before", x.set(2, 1, 5), -1);
        DUE.is("6 last", x.set(2, 2, -1), 30);
        DUE.is("6 no such place", x.set(2, 3, 1), -9);
        DUE.is("6 place 40", x.set(2, 40, 1), -9);
        DUE.is("6 changed", x.text(2, true), "999 5 -1");
        DUE.outOfBounds("6 row", () -> x.set(4, 41, 1));
        DUE.outOfBounds("6 row below", () -> x.set(-1, 0, 1));
        DUE.badArgument("6 place 41", () -> x.set(2, 41, 1));
        DUE.badArgument("6 place -1", () -> x.set(2, -1, 1));
        DUE.badArgument("6 code -2", () -> x.set(2, 0, -2));
        DUE.badArgument("6 code 1000", () -> x.set(2, 0, 1000));
        x.open(0, 2, 0, 0);
        x.view(0, 2, 0, 3);
        x.set(2, 0, 7);
        DUE.is("6 cuts no cursor", x.has(0, false), true);
        DUE.is("6 cuts no view", x.viewText(0), "[0/7, 0/5, null]");
    }

    private static void promise7SetElementAt() {
        Reelrow x = Due.with(1, 10, 20);
        DUE.is("7 how many", x.setElementAt(1, 999, 1), 2);
        DUE.is("7 to nothing", x.setElementAt(1, -1, 0), 2);
        DUE.is("7 no such place", x.setElementAt(1, 5, 2), -9);
        DUE.is("7 changed", x.text(1, true), "-1 999");
        DUE.outOfBounds("7 row", () -> x.setElementAt(4, 1000, 0));
        DUE.outOfBounds("7 row below", () -> x.setElementAt(-1, 1, 0));
        DUE.badArgument("7 code 1000", () -> x.setElementAt(1, 1000, 0));
        DUE.badArgument("7 code -2", () -> x.setElementAt(1, -2, 0));
        DUE.badArgument("7 place 41", () -> x.setElementAt(1, 1, 41));
        DUE.badArgument("7 place -1", () -> x.setElementAt(1, 1, -1));
        DUE.is("7 place 40", x.setElementAt(1, 1, 40), -9);
        x.open(2, 1, 2, 0);
        x.view(1, 1, 0, 2);
        x.setElementAt(1, 7, 0);
        DUE.is("7 cuts no cursor", x.go(2, false), 7);
        DUE.is("7 cuts no view", x.viewText(1), "[0/7, 99/9]");
    }
}
