/** Promises 48 to 50, and which calls of the rows are marked CUTS. */
public final class AllTest {
    private static final Due DUE = new Due("all");

    /** A call on an object that is given to it. */
    interface CutCall {
        Object on(Reelrow x);
    }

    public static void main(String[] args) {
        promise48Knock();
        promise49IsSound();
        promise50Digest();
        cutsWhateverTheyTell();
        throwsCutNothing();
        DUE.done();
    }

    private static void promise48Knock() {
        Reelrow x = new Reelrow();
        DUE.outOfBounds("48 a refused row", () -> x.add(4, 0, 0));
        DUE.is("48 first", x.knock(), 1);
        DUE.outOfBounds("48 another refused row", () -> x.push(0, 0));
        DUE.is("48 second", x.knock(), 2);
        x.digest();
        DUE.is("48 third", x.knock(), 3);
        DUE.is("48 of another object", new Reelrow().knock(), 1);
    }

    private static void promise49IsSound() {
        Reelrow x = new Reelrow();
        DUE.is("49 new", x.isSound(), true);
        for (int i = 0; i < 30; i++) {
            x.add(0, i * 7 % 50, 0);
            x.push(2, i % 3 == 0 ? -1 : i * 30);
        }
        x.addAll(1, 0);
        x.sort(1, true);
        x.view(0, 0, 3, 20);
        x.inner(1, 9);
        x.open(0, 0, 1, 7);
        DUE.is("49 full", x.isSound(), true);
        x.viewRemove(1, 2);
        DUE.is("49 changed", x.isSound(), true);
        x.view(1, 1, 0, 5);
        DUE.is("49 a view from 0", x.isSound(), true);
        x.view(1, 1, 5, 5);
        DUE.is("49 an empty view", x.isSound(), true);
        DUE.is("49 moves no cursor", x.open(0, 0, 1, 7), 22);
        x.isSound();
        DUE.is("49 it stands there", x.place(0, false), 7);
    }

    private static long fold(long d, long... values) {
        long sum = d;
        for (long v : values) {
            sum = sum * 31 + v;
        }
        return sum;
    }

    // By the document's words, with the answers written out.
    private static void promise50Digest() {
        long empty = 7701;
        for (int row = 0; row <= 3; row++) {
            empty = fold(empty, 0, 1, 1, row >= 2 ? 1 : 0, 0, 2, -9, -9, 1, 1);
        }
        DUE.is("50 new", new Reelrow().digest(), fold(empty, -9, -9, 2, 2, 2, -1, -1, 1));

        Reelrow x = Due.fill(Due.fill(Due.with(0, 10, -1, 15), 1, 100), 3, 10);
        x.open(0, 0, 1, 3);
        x.open(2, 3, 2, 0);
        x.view(1, 0, 1, 3);
        long d = fold(7701, 3, 0, ((31 + 1) * 31) * 31 + 1, 0, 10, -1, 15, 8, 16, 10, 15, 0, 2, 1, 0, 0);
        d = fold(d, 1, 0, 31 + 10, 0, 100, 3, 6, 100, 100, 0, 0, 1, 0, 1);
        d = fold(d, 0, 1, 1, 1, 0, 2, -9, -9, 0, 0);
        d = fold(d, 1, 0, 31 + 1, 0, 10, 2, 5, 10, 10, 0, 0, 1, 0, 0);
        d = fold(d, -9, 10, 0, 2, 1, -1, 2, 0, 31 * 31 + 1, 0, 11, 1);
        DUE.is("50 filled", x.digest(), d);
        DUE.is("50 again", x.digest(), d);
        eachRowWithItsNext();
    }

    // Each row is like the one after its next, and like none that it is to be held against.
    private static void eachRowWithItsNext() {
        Reelrow x = Due.fill(Due.fill(Due.fill(Due.with(0, 10), 1, 20), 2, 10), 3, 20);
        long d = 7701;
        for (int row = 0; row <= 3; row++) {
            int number = row % 2 + 1;
            d = fold(d, 1, 0, 31 + number, 0, 10 * number, 2, 5, 10 * number, 10 * number, 0, 0, 1, 0, 0);
        }
        DUE.is("50 each row with its next", x.digest(), fold(d, 10, 20, 2, 2, 2, -1, -1, 1));
    }

    private static void cutsWhateverTheyTell() {
        cuts("2 add", x -> x.add(2, 5, 0));
        cuts("3 insert", x -> x.insert(2, 0, 5, 0));
        cuts("3 insert -9", x -> x.insert(2, 40, 5, 0));
        cuts("4 addAll", x -> x.addAll(2, 1));
        cuts("4 addAll none", x -> x.addAll(2, 3));
        cuts("5 addAllAt", x -> x.addAllAt(2, 0, 1));
        cuts("5 addAllAt none", x -> x.addAllAt(2, 0, 3));
        cuts("5 addAllAt -9", x -> x.addAllAt(2, 40, 1));
        cuts("8 remove", x -> x.remove(2, 0));
        cuts("8 remove -9", x -> x.remove(2, 40));
        cuts("9 removeThing", x -> x.removeThing(2, 10, 0));
        cuts("9 removeThing none", x -> x.removeThing(2, 999, 1));
        cuts("10 removeElementAt", x -> x.removeElementAt(2, 0));
        cuts("10 removeElementAt -9", x -> x.removeElementAt(2, 40));
        cuts("11 removeAll", x -> x.removeAll(2, 1));
        cuts("11 removeAll none", x -> x.removeAll(2, 3));
        cuts("12 retainAll", x -> x.retainAll(2, 1));
        cuts("13 wipe", x -> x.wipe(2, 0));
        cuts("14 setSize", x -> x.setSize(2, 1));
        cuts("14 setSize as it was", x -> x.setSize(2, 2));
        cuts("15 room", x -> x.room(2, 0));
        cuts("15 room back", x -> x.room(2, -1));
        cuts("16 sort", x -> x.sort(2, false));
        cuts("17 push", x -> x.push(2, 5));
        cuts("18 pop", x -> x.pop(2));
        cuts("18 pop -9", 3, x -> x.pop(3));
        cuts("12 retainAll none", 3, x -> x.retainAll(3, 0));
        cuts("13 wipe none", 3, x -> x.wipe(3, 1));
        cuts("16 sort of empty", 3, x -> x.sort(3, true));
    }

    private static void cuts(String what, CutCall call) {
        cuts(what, 2, call);
    }

    /** All of the row is lost, nothing of the other rows is. */
    private static void cuts(String what, int row, CutCall call) {
        Reelrow x = Due.fill(Due.with(2, 10, 20), 1, 19);
        for (int kind = 0; kind <= 2; kind++) {
            x.open(kind, row, kind, 0);
        }
        x.view(0, row, 0, 0);
        x.inner(0, 0);
        call.on(x);
        for (int cursor = 0; cursor <= 2; cursor++) {
            int asked = cursor;
            DUE.badState(what + " cuts cursor " + cursor, () -> x.has(asked, false));
        }
        DUE.badState(what + " cuts view 0", () -> x.viewText(0));
        DUE.badState(what + " cuts view 1", () -> x.viewText(1));
        x.open(0, 0, 0, 0);
        x.open(1, 1, 1, 0);
        x.open(2, 5 - row, 2, 0);
        x.view(0, 1, 0, 1);
        x.view(1, 5 - row, 0, 0);
        x.setSize(row, 2);
        Due.fill(x, row, 10);
        call.on(x);
        DUE.is(what + " leaves a cursor of row 0", x.has(0, false), false);
        DUE.is(what + " leaves one of the other row", x.go(1, false), 19);
        DUE.is(what + " leaves one of the last row", x.has(2, false), row == 3);
        DUE.is(what + " leaves a view of the other row", x.viewText(0), "[1/9]");
        DUE.is(what + " leaves a view of the last row", x.viewText(1), "[]");
    }

    private static void throwsCutNothing() {
        Reelrow x = Due.with(2, 10);
        x.setSize(2, 30);
        x.add(1, 5, 0);
        x.open(0, 2, 0, 0);
        x.view(0, 2, 0, 2);
        DUE.badState("add", () -> x.add(2, 1, 0));
        DUE.badArgument("insert", () -> x.insert(2, 41, 1, 0));
        DUE.badState("insert when full", () -> x.insert(2, 0, 1, 0));
        DUE.badState("addAll", () -> x.addAll(2, 1));
        DUE.badState("addAllAt", () -> x.addAllAt(2, 0, 1));
        DUE.badArgument("remove", () -> x.remove(2, 41));
        DUE.badArgument("removeThing", () -> x.removeThing(2, 1000, 0));
        DUE.badArgument("removeElementAt", () -> x.removeElementAt(2, 41));
        DUE.badArgument("removeAll", () -> x.removeAll(2, 2));
        DUE.badArgument("retainAll", () -> x.retainAll(2, 2));
        DUE.badArgument("wipe", () -> x.wipe(2, 2));
        DUE.badArgument("setSize", () -> x.setSize(2, 31));
        DUE.badArgument("room", () -> x.room(2, 41));
        DUE.badState("push", () -> x.push(2, 1));
        DUE.badArgument("viewAdd", () -> x.viewAdd(0, 41, 1));
        DUE.badState("viewAdd when full", () -> x.viewAdd(0, 0, 1));
        DUE.badArgument("viewRemove", () -> x.viewRemove(0, 41));
        DUE.is("a throw cuts no cursor", x.go(0, false), 10);
        DUE.is("a throw cuts no view", x.viewText(0), "[1/0, null]");
        DUE.is("a throw changes nothing", x.count(2, 0), 30);
    }
}
