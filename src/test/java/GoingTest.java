/** Promises 8 to 16: what goes, sizes and order. */
public final class GoingTest {
    private static final Due DUE = new Due("going");

    public static void main(String[] args) {
        promise8Remove();
        promise9RemoveThing();
        promise10RemoveElementAt();
        promise11RemoveAll();
        promise12RetainAll();
        promise13Wipe();
        promise14SetSize();
        promise15Room();
        promise16Sort();
        DUE.done();
    }

    private static void promise8Remove() {
        Reelrow x = Due.with(0, 10, -1, 30, 40);
        DUE.is("8 nothing goes", x.remove(0, 1), -1);
        DUE.is("8 the last", x.remove(0, 2), 40);
        DUE.is("8 the first", x.remove(0, 0), 10);
        DUE.is("8 left", x.text(0, true), "30");
        DUE.is("8 no such place", x.remove(0, 1), -9);
        DUE.is("8 place 40", x.remove(0, 40), -9);
        DUE.outOfBounds("8 row", () -> x.remove(4, 41));
        DUE.outOfBounds("8 row below", () -> x.remove(-1, 0));
        DUE.badArgument("8 place 41", () -> x.remove(0, 41));
        DUE.badArgument("8 place -1", () -> x.remove(0, -1));
    }

    private static void promise9RemoveThing() {
        Reelrow x = Due.with(2, 10, 25, -1, 21, -1);
        DUE.is("9 by number, whatever the mark", x.removeThing(2, 29, 0), true);
        DUE.is("9 the first one went", x.text(2, true), "10 -1 21 -1");
        DUE.is("9 nothing", x.removeThing(2, -1, 1), true);
        DUE.is("9 the first nothing went", x.text(2, true), "10 21 -1");
        DUE.is("9 none", x.removeThing(2, 999, 0), false);
        Reelrow y = Due.with(0, 10, 20, 15);
        DUE.is("9 the first cell", y.removeThing(0, 19, 1), true);
        DUE.is("9 it went", y.text(0, true), "20 15");
        DUE.is("9 unchanged", x.text(2, true), "10 21 -1");
        DUE.is("9 nothing is not number 0", x.removeThing(2, 0, 0), false);
        DUE.outOfBounds("9 row", () -> x.removeThing(4, 1000, 0));
        DUE.outOfBounds("9 row below", () -> x.removeThing(-1, 1, 0));
        DUE.badArgument("9 code 1000", () -> x.removeThing(2, 1000, 0));
        DUE.badArgument("9 code -2", () -> x.removeThing(2, -2, 0));
        DUE.badArgument("9 how 2", () -> x.removeThing(2, 1, 2));
        DUE.badArgument("9 how -1", () -> x.removeThing(2, 1, -1));
    }

    private static void promise10RemoveElementAt() {
        Reelrow x = Due.with(3, 10, 20, 30);
        DUE.is("10 how many then", x.removeElementAt(3, 1), 2);
        DUE.is("10 left", x.text(3, true), "10 30");
        DUE.is("10 no such place", x.removeElementAt(3, 2), -9);
        DUE.is("10 the last", x.removeElementAt(3, 1), 1);
        DUE.is("10 the only one", x.removeElementAt(3, 0), 0);
        DUE.is("10 of empty", x.removeElementAt(3, 0), -9);
        DUE.is("10 place 40", x.removeElementAt(3, 40), -9);
        DUE.outOfBounds("10 row", () -> x.removeElementAt(4, 41));
        DUE.outOfBounds("10 row below", () -> x.removeElementAt(-1, 0));
        DUE.badArgument("10 place 41", () -> x.removeElementAt(3, 41));
        DUE.badArgument("10 place -1", () -> x.removeElementAt(3, -1));
    }

    private static void promise11RemoveAll() {
        Reelrow x = Due.fill(Due.with(0, 10, 21, -1, 11, 30, 20), 1, 19, 29);
        DUE.is("11 some went", x.removeAll(0, 1), true);
        DUE.is("11 all the same went", x.text(0, true), "-1 30");
        DUE.is("11 the other stays", x.text(1, true), "19 29");
        DUE.is("11 none went", x.removeAll(0, 1), false);
        DUE.is("11 by an empty one", x.removeAll(0, 2), false);
        x.add(1, -1, 0);
        DUE.is("11 nothing goes, too", x.removeAll(0, 1), true);
        DUE.is("11 left", x.text(0, true), "30");
        DUE.outOfBounds("11 row", () -> x.removeAll(4, 4));
        DUE.outOfBounds("11 row below", () -> x.removeAll(-1, 0));
        DUE.outOfBounds("11 other", () -> x.removeAll(0, 4));
        DUE.outOfBounds("11 other below", () -> x.removeAll(0, -1));
        DUE.badArgument("11 one row", () -> x.removeAll(0, 0));
    }

    private static void promise12RetainAll() {
        Reelrow x = Due.fill(Due.with(2, 10, 21, -1, 11, 30, 20), 3, 19, -1);
        DUE.is("12 some went", x.retainAll(2, 3), true);
        DUE.is("12 the same stayed", x.text(2, true), "10 -1 11");
        DUE.is("12 the other stays", x.text(3, true), "19 -1");
        DUE.is("12 none went", x.retainAll(2, 3), false);
        DUE.is("12 by an empty one", x.retainAll(2, 0), true);
        DUE.is("12 empty", x.count(2, 0), 0);
        DUE.is("12 empty by empty", x.retainAll(2, 0), false);
        DUE.outOfBounds("12 row", () -> x.retainAll(4, 4));
        DUE.outOfBounds("12 row below", () -> x.retainAll(-1, 0));
        DUE.outOfBounds("12 other", () -> x.retainAll(0, 4));
        DUE.outOfBounds("12 other below", () -> x.retainAll(0, -1));
        DUE.badArgument("12 one row", () -> x.retainAll(2, 2));
    }

    private static void promise13Wipe() {
        Reelrow x = Due.fill(Due.with(0, 10, 20), 1, 5);
        DUE.is("13 how many there were", x.wipe(0, 0), 2);
        DUE.is("13 empty", x.text(0, true), "");
        DUE.is("13 empty again", x.wipe(0, 1), 0);
        DUE.is("13 the other way", x.wipe(1, 1), 1);
        DUE.is("13 empty, too", x.count(1, 0), 0);
        DUE.outOfBounds("13 row", () -> x.wipe(4, 2));
        DUE.outOfBounds("13 row below", () -> x.wipe(-1, 0));
        DUE.badArgument("13 how 2", () -> x.wipe(0, 2));
        DUE.badArgument("13 how -1", () -> x.wipe(0, -1));
    }

    private static void promise14SetSize() {
        Reelrow x = Due.with(1, 10, 20, 30);
        DUE.is("14 smaller", x.setSize(1, 2), 3);
        DUE.is("14 those behind went", x.text(1, true), "10 20");
        DUE.is("14 greater", x.setSize(1, 4), 2);
        DUE.is("14 nothing came", x.text(1, true), "10 20 -1 -1");
        DUE.is("14 as many", x.setSize(1, 4), 4);
        DUE.is("14 all", x.setSize(1, 30), 4);
        DUE.is("14 none", x.setSize(1, 0), 30);
        DUE.is("14 empty", x.count(1, 1), 1);
        DUE.outOfBounds("14 row", () -> x.setSize(4, 31));
        DUE.outOfBounds("14 row below", () -> x.setSize(-1, 0));
        DUE.badArgument("14 size 31", () -> x.setSize(1, 31));
        DUE.badArgument("14 size -1", () -> x.setSize(1, -1));
    }

    private static void promise15Room() {
        Reelrow x = Due.with(3, 10, -1, 30);
        DUE.is("15 room", x.room(3, 40), 3);
        DUE.is("15 none", x.room(3, 0), 3);
        DUE.is("15 taken back", x.room(3, -1), 3);
        DUE.is("15 unchanged", x.text(3, true), "10 -1 30");
        DUE.is("15 of empty", x.room(0, 7), 0);
        DUE.outOfBounds("15 row", () -> x.room(4, 41));
        DUE.outOfBounds("15 row below", () -> x.room(-1, 0));
        DUE.badArgument("15 size 41", () -> x.room(3, 41));
        DUE.badArgument("15 size -2", () -> x.room(3, -2));
    }

    private static void promise16Sort() {
        Reelrow x = Due.with(0, 31, 20, -1, 39, 5, 30, 21, -1, 0);
        DUE.is("16 the first", x.sort(0, false), -1);
        DUE.is("16 by number, the same in its order", x.text(0, true), "-1 -1 5 0 20 21 31 39 30");
        DUE.is("16 the first downwards", x.sort(0, true), 31);
        DUE.is("16 falling, the same in its order", x.text(0, true), "31 39 30 20 21 5 0 -1 -1");
        DUE.is("16 empty", x.sort(1, false), -9);
        DUE.is("16 empty downwards", x.sort(1, true), -9);
        Reelrow y = Due.with(2, 9, 5, 7);
        DUE.is("16 all the same", y.sort(2, true), 9);
        DUE.is("16 nothing moved", y.text(2, true), "9 5 7");
        DUE.outOfBounds("16 row", () -> x.sort(4, false));
        DUE.outOfBounds("16 row below", () -> x.sort(-1, true));
    }
}
