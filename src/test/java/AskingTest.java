/** Promises 21 to 30: what is asked of rows. */
public final class AskingTest {
    private static final Due DUE = new Due("asking");

    public static void main(String[] args) {
        promise21At();
        promise22End();
        promise23Find();
        promise24FindFrom();
        promise25FindTo();
        promise26ContainsAll();
        promise27AreEqual();
        promise28Count();
        promise29Text();
        promise30CopyInto();
        askingCutsNothing();
        DUE.done();
    }

    private static void promise21At() {
        Reelrow x = Due.with(1, 10, -1);
        DUE.is("21 first", x.at(1, 0, 0), 10);
        DUE.is("21 nothing", x.at(1, 1, 1), -1);
        DUE.is("21 no such place", x.at(1, 2, 0), -9);
        DUE.is("21 place 40", x.at(1, 40, 1), -9);
        DUE.outOfBounds("21 row", () -> x.at(4, 41, 0));
        DUE.outOfBounds("21 row below", () -> x.at(-1, 0, 0));
        DUE.badArgument("21 place 41", () -> x.at(1, 41, 0));
        DUE.badArgument("21 place -1", () -> x.at(1, -1, 0));
        DUE.badArgument("21 how 2", () -> x.at(1, 0, 2));
        DUE.badArgument("21 how -1", () -> x.at(1, 0, -1));
    }

    private static void promise22End() {
        Reelrow x = Due.with(2, 10, 20, 30);
        DUE.is("22 first", x.end(2, false), 10);
        DUE.is("22 last", x.end(2, true), 30);
        DUE.is("22 empty first", x.end(0, false), -9);
        DUE.is("22 empty last", x.end(0, true), -9);
        DUE.outOfBounds("22 row", () -> x.end(4, true));
        DUE.outOfBounds("22 row below", () -> x.end(-1, false));
    }

    private static void promise23Find() {
        Reelrow x = Due.with(3, 10, 25, -1, 21, -1);
        DUE.is("23 first", x.find(3, 20, 0), 1);
        DUE.is("23 last", x.find(3, 20, 1), 3);
        DUE.is("23 whether", x.find(3, 20, 2), 1);
        DUE.is("23 first nothing", x.find(3, -1, 0), 2);
        DUE.is("23 last nothing", x.find(3, -1, 1), 4);
        DUE.is("23 first, none", x.find(3, 0, 0), -1);
        DUE.is("23 last, none", x.find(3, 0, 1), -1);
        DUE.is("23 whether, none", x.find(3, 0, 2), 0);
        DUE.outOfBounds("23 row", () -> x.find(4, 1000, 0));
        DUE.outOfBounds("23 row below", () -> x.find(-1, 1, 0));
        DUE.badArgument("23 code 1000", () -> x.find(3, 1000, 0));
        DUE.badArgument("23 code -2", () -> x.find(3, -2, 0));
        DUE.badArgument("23 how 3", () -> x.find(3, 1, 3));
        DUE.badArgument("23 how -1", () -> x.find(3, 1, -1));
    }

    private static void promise24FindFrom() {
        Reelrow x = Due.with(0, 10, 25, 10, 21);
        DUE.is("24 from 0", x.findFrom(0, 20, 0), 1);
        DUE.is("24 from itself", x.findFrom(0, 20, 1), 1);
        DUE.is("24 from behind it", x.findFrom(0, 20, 2), 3);
        DUE.is("24 none left", x.findFrom(0, 10, 3), -1);
        DUE.is("24 place behind all", x.findFrom(0, 10, 4), -1);
        DUE.is("24 place 40", x.findFrom(0, -1, 40), -1);
        DUE.outOfBounds("24 row", () -> x.findFrom(4, 1000, 0));
        DUE.outOfBounds("24 row below", () -> x.findFrom(-1, 1, 0));
        DUE.badArgument("24 code 1000", () -> x.findFrom(0, 1000, 0));
        DUE.badArgument("24 code -2", () -> x.findFrom(0, -2, 0));
        DUE.badArgument("24 place 41", () -> x.findFrom(0, 1, 41));
        DUE.badArgument("24 place -1", () -> x.findFrom(0, 1, -1));
    }

    private static void promise25FindTo() {
        Reelrow x = Due.with(0, 10, 25, 10, 21);
        DUE.is("25 up to the last", x.findTo(0, 20, 3), 3);
        DUE.is("25 up to ahead of it", x.findTo(0, 20, 2), 1);
        DUE.is("25 up to itself", x.findTo(0, 20, 1), 1);
        DUE.is("25 none yet", x.findTo(0, 20, 0), -1);
        DUE.is("25 up to NONE", x.findTo(0, 10, -1), -1);
        DUE.is("25 no such place", x.findTo(0, 10, 4), -9);
        DUE.is("25 place 40", x.findTo(0, 10, 40), -9);
        DUE.is("25 of empty", x.findTo(1, 10, 0), -9);
        DUE.is("25 of empty up to NONE", x.findTo(1, 10, -1), -1);
        DUE.outOfBounds("25 row", () -> x.findTo(4, 1000, 0));
        DUE.outOfBounds("25 row below", () -> x.findTo(-1, 1, 0));
        DUE.badArgument("25 code 1000", () -> x.findTo(0, 1000, 0));
        DUE.badArgument("25 code -2", () -> x.findTo(0, -2, 0));
        DUE.badArgument("25 place 41", () -> x.findTo(0, 1, 41));
        DUE.badArgument("25 place -2", () -> x.findTo(0, 1, -2));
    }

    private static void promise26ContainsAll() {
        Reelrow x = Due.fill(Due.with(0, 10, 20, -1), 1, 29, 11, 28);
        DUE.is("26 all", x.containsAll(0, 1), true);
        DUE.is("26 not the other way", x.containsAll(1, 0), false);
        DUE.is("26 itself", x.containsAll(0, 0), true);
        DUE.is("26 of empty", x.containsAll(0, 2), true);
        DUE.is("26 empty of it", x.containsAll(2, 0), false);
        DUE.is("26 empty of empty", x.containsAll(2, 3), true);
        x.add(1, 0, 0);
        DUE.is("26 number 0 is not nothing", x.containsAll(0, 1), false);
        DUE.outOfBounds("26 row", () -> x.containsAll(4, 0));
        DUE.outOfBounds("26 row below", () -> x.containsAll(-1, 0));
        DUE.outOfBounds("26 other", () -> x.containsAll(0, 4));
        DUE.outOfBounds("26 other below", () -> x.containsAll(0, -1));
    }

    private static void promise27AreEqual() {
        Reelrow x = Due.fill(Due.with(0, 10, -1, 20), 2, 19, -1, 25);
        DUE.is("27 the same, whatever the marks", x.areEqual(0, 2), true);
        DUE.is("27 the other way", x.areEqual(2, 0), true);
        DUE.is("27 itself", x.areEqual(0, 0), true);
        DUE.is("27 empty ones", x.areEqual(1, 3), true);
        DUE.is("27 one is empty", x.areEqual(1, 0), false);
        x.add(2, 5, 0);
        DUE.is("27 one is longer", x.areEqual(0, 2), false);
        DUE.is("27 one is shorter", x.areEqual(2, 0), false);
        x.pop(2);
        x.set(2, 1, 0);
        DUE.is("27 number 0 is not nothing", x.areEqual(0, 2), false);
        DUE.outOfBounds("27 row", () -> x.areEqual(4, 0));
        DUE.outOfBounds("27 row below", () -> x.areEqual(-1, 0));
        DUE.outOfBounds("27 other", () -> x.areEqual(0, 4));
        DUE.outOfBounds("27 other below", () -> x.areEqual(0, -1));
    }

    private static void promise28Count() {
        Reelrow x = Due.fill(Due.with(0, 10, -1, 25), 2, 5);
        DUE.is("28 how many", x.count(0, 0), 3);
        DUE.is("28 not empty", x.count(0, 1), 0);
        DUE.is("28 sum", x.count(0, 2), ((31 + 1) * 31) * 31 + 2);
        DUE.is("28 no stack", x.count(0, 3), 0);
        DUE.is("28 empty", x.count(1, 1), 1);
        DUE.is("28 sum of empty", x.count(1, 2), 1);
        DUE.is("28 empty, but no stack", x.count(1, 3), 0);
        DUE.is("28 a stack that is not empty", x.count(2, 3), 0);
        DUE.is("28 an empty stack", x.count(3, 3), 1);
        x.setSize(0, 0);
        int sum = 1;
        for (int i = 0; i < 30; i++) {
            x.add(0, 990 + i % 10, 0);
            sum = 31 * sum + 99;
        }
        DUE.is("28 sum wraps around", x.count(0, 2), sum);
        DUE.outOfBounds("28 row", () -> x.count(4, 4));
        DUE.outOfBounds("28 row below", () -> x.count(-1, 0));
        DUE.badArgument("28 what 4", () -> x.count(0, 4));
        DUE.badArgument("28 what -1", () -> x.count(0, -1));
    }

    private static void promise29Text() {
        Reelrow x = Due.with(1, 70, -1, 999, 100, 99, 10, 9, 0);
        DUE.is("29 text", x.text(1, false), "[7/0, null, 99/9, 10/0, 9/9, 1/0, 0/9, 0/0]");
        DUE.is("29 codes", x.text(1, true), "70 -1 999 100 99 10 9 0");
        DUE.is("29 empty text", x.text(0, false), "[]");
        DUE.is("29 empty codes", x.text(0, true), "");
        DUE.is("29 one cell", Due.with(3, -1).text(3, false), "[null]");
        DUE.outOfBounds("29 row", () -> x.text(4, false));
        DUE.outOfBounds("29 row below", () -> x.text(-1, true));
    }

    private static void promise30CopyInto() {
        Reelrow x = Due.with(1, 70, -1, 999);
        DUE.is("30 just as many", x.copyInto(1, 3), "70 -1 999");
        DUE.is("30 more", x.copyInto(1, 5), "70 -1 999 - -");
        DUE.is("30 of empty", x.copyInto(0, 2), "- -");
        DUE.is("30 no places", x.copyInto(0, 0), "");
        DUE.is("30 most places", x.copyInto(1, 40).length(), 9 + 2 * 37);
        DUE.outOfBounds("30 row", () -> x.copyInto(4, 41));
        DUE.outOfBounds("30 row below", () -> x.copyInto(-1, 3));
        DUE.badArgument("30 size 41", () -> x.copyInto(1, 41));
        DUE.badArgument("30 too few", () -> x.copyInto(1, 2));
        DUE.badArgument("30 size -1", () -> x.copyInto(0, -1));
        x.setSize(1, 30);
        DUE.badArgument("30 too few for 30", () -> x.copyInto(1, 29));
        DUE.is("30 full", x.copyInto(1, 30).length(), 9 + 27 * 3);
    }

    private static void askingCutsNothing() {
        Reelrow x = Due.with(2, 10, 20);
        x.open(0, 2, 1, 1);
        x.view(0, 2, 0, 1);
        x.at(2, 0, 0);
        x.end(2, true);
        x.find(2, 10, 0);
        x.findFrom(2, 10, 0);
        x.findTo(2, 10, 5);
        x.containsAll(2, 3);
        x.areEqual(2, 3);
        x.count(2, 2);
        x.text(2, true);
        x.text(2, false);
        x.copyInto(2, 3);
        x.search(2, 10);
        x.knock();
        x.isSound();
        x.digest();
        DUE.is("21 to 30 cut no cursor", x.go(0, false), 20);
        DUE.is("21 to 30 cut no view", x.viewText(0), "[1/0]");
    }
}
