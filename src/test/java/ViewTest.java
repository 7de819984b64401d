/** Promises 38 to 47: views. */
public final class ViewTest {
    private static final Due DUE = new Due("views");

    public static void main(String[] args) {
        promise38View();
        promise39Inner();
        promise40ViewCount();
        promise41ViewText();
        promise42ViewGet();
        promise43ViewSet();
        promise44ViewAdd();
        promise45ViewRemove();
        promise46ViewFind();
        promise47ViewClear();
        DUE.done();
    }

    private static Reelrow viewed() {
        Reelrow x = Due.with(0, 10, 20, 30, 40, 50);
        x.view(0, 0, 1, 4);
        return x;
    }

    private static void promise38View() {
        Reelrow x = Due.with(2, 10, 20, 30);
        DUE.is("38 a part", x.view(0, 2, 1, 3), 2);
        DUE.is("38 shown", x.viewText(0), "[2/0, 3/0]");
        DUE.is("38 to above", x.view(0, 2, 0, 4), -9);
        DUE.is("38 from above to", x.view(0, 2, 2, 1), -9);
        DUE.is("38 the old one stays", x.viewText(0), "[2/0, 3/0]");
        DUE.is("38 empty at the end", x.view(1, 2, 3, 3), 0);
        DUE.is("38 all", x.view(1, 2, 0, 3), 3);
        DUE.is("38 both are there", x.viewText(0), "[2/0, 3/0]");
        DUE.is("38 inner", x.inner(0, 1), 1);
        DUE.is("38 -9 keeps the inner one", x.view(0, 2, 0, 9), -9);
        DUE.is("38 it is there", x.viewText(1), "[2/0]");
        DUE.is("38 view 0 anew, on another row", x.view(0, 3, 0, 0), 0);
        DUE.badState("38 the inner one is gone with it", () -> x.viewText(1));
        x.view(1, 2, 0, 1);
        x.view(0, 2, 0, 2);
        DUE.is("38 one that is no inner one stays", x.viewText(1), "[1/0]");
        x.inner(0, 2);
        x.view(1, 2, 2, 3);
        x.view(0, 2, 0, 0);
        DUE.is("38 nor is one opened anew", x.viewText(1), "[3/0]");
        x.open(0, 2, 0, 0);
        x.view(0, 2, 0, 9);
        DUE.is("38 cuts nothing", x.has(0, false), true);
        DUE.outOfBounds("38 view 2", () -> x.view(2, 0, 41, 0));
        DUE.outOfBounds("38 view -1", () -> x.view(-1, 0, 0, 0));
        DUE.outOfBounds("38 row 4", () -> x.view(0, 4, 41, 0));
        DUE.outOfBounds("38 row -1", () -> x.view(0, -1, 0, 0));
        DUE.badArgument("38 from 41", () -> x.view(0, 2, 41, 0));
        DUE.badArgument("38 from -1", () -> x.view(0, 2, -1, 0));
        DUE.badArgument("38 to 41", () -> x.view(0, 2, 0, 41));
        DUE.badArgument("38 to -1", () -> x.view(0, 2, 0, -1));
    }

    private static void promise39Inner() {
        Reelrow x = viewed();
        DUE.is("39 a part", x.inner(1, 3), 2);
        DUE.is("39 shown", x.viewText(1), "[3/0, 4/0]");
        DUE.is("39 to above", x.inner(0, 4), -9);
        DUE.is("39 from above to", x.inner(2, 1), -9);
        DUE.is("39 the old one stays", x.viewText(1), "[3/0, 4/0]");
        DUE.is("39 empty", x.inner(3, 3), 0);
        DUE.is("39 all", x.inner(0, 3), 3);
        DUE.badArgument("39 from 41", () -> x.inner(41, 0));
        DUE.badArgument("39 from -1", () -> x.inner(-1, 0));
        DUE.badArgument("39 to 41", () -> x.inner(0, 41));
        DUE.badArgument("39 to -1", () -> x.inner(0, -1));
        x.add(0, 5, 0);
        DUE.badState("39 view 0 is lost", () -> x.inner(0, 0));
        DUE.badArgument("39 lost, but to is ahead", () -> x.inner(0, 41));
        DUE.badState("39 view 0 was never opened", () -> new Reelrow().inner(0, 0));
    }

    private static void promise40ViewCount() {
        Reelrow x = viewed();
        DUE.is("40 how many", x.viewCount(0, 0), 3);
        DUE.is("40 not empty", x.viewCount(0, 1), 0);
        DUE.is("40 sum", x.viewCount(0, 2), ((31 + 2) * 31 + 3) * 31 + 4);
        DUE.is("40 not the whole", x.viewCount(0, 3), 0);
        x.view(1, 0, 0, 5);
        DUE.is("40 the whole", x.viewCount(1, 3), 1);
        x.view(1, 0, 5, 5);
        DUE.is("40 empty", x.viewCount(1, 1), 1);
        DUE.is("40 sum of empty", x.viewCount(1, 2), 1);
        DUE.is("40 empty is not the whole", x.viewCount(1, 3), 0);
        x.view(1, 3, 0, 0);
        DUE.is("40 the whole of empty", x.viewCount(1, 3), 1);
        DUE.outOfBounds("40 view 2", () -> x.viewCount(2, 4));
        DUE.outOfBounds("40 view -1", () -> x.viewCount(-1, 0));
        DUE.badArgument("40 what 4", () -> x.viewCount(0, 4));
        DUE.badArgument("40 what -1", () -> x.viewCount(0, -1));
        x.wipe(0, 0);
        DUE.badState("40 lost", () -> x.viewCount(0, 0));
        DUE.badArgument("40 lost, what ahead", () -> x.viewCount(0, 4));
    }

    private static void promise41ViewText() {
        Reelrow x = Due.with(1, 70, -1, 999, 3);
        x.view(1, 1, 0, 3);
        DUE.is("41 text", x.viewText(1), "[7/0, null, 99/9]");
        x.set(1, 0, 5);
        DUE.is("41 what is there now", x.viewText(1), "[0/5, null, 99/9]");
        x.view(1, 1, 2, 2);
        DUE.is("41 empty", x.viewText(1), "[]");
        DUE.outOfBounds("41 view 2", () -> x.viewText(2));
        DUE.outOfBounds("41 view -1", () -> x.viewText(-1));
        DUE.badState("41 not opened", () -> x.viewText(0));
        x.removeThing(1, 999, 0);
        DUE.badState("41 lost", () -> x.viewText(1));
    }

    private static void promise42ViewGet() {
        Reelrow x = viewed();
        DUE.is("42 first", x.viewGet(0, 0), 20);
        DUE.is("42 last", x.viewGet(0, 2), 40);
        DUE.is("42 no such place of it", x.viewGet(0, 3), -9);
        DUE.is("42 place 40", x.viewGet(0, 40), -9);
        DUE.outOfBounds("42 view 2", () -> x.viewGet(2, 41));
        DUE.outOfBounds("42 view -1", () -> x.viewGet(-1, 0));
        DUE.badArgument("42 place 41", () -> x.viewGet(1, 41));
        DUE.badArgument("42 place -1", () -> x.viewGet(0, -1));
        DUE.badState("42 not opened", () -> x.viewGet(1, 0));
    }

    private static void promise43ViewSet() {
        Reelrow x = viewed();
        x.inner(1, 2);
        x.open(0, 0, 0, 0);
        DUE.is("43 before", x.viewSet(0, 0, 25), 20);
        DUE.is("43 by the inner one", x.viewSet(1, 0, -1), 30);
        DUE.is("43 no such place of it", x.viewSet(1, 1, 5), -9);
        DUE.is("43 in the row", x.text(0, true), "10 25 -1 40 50");
        DUE.is("43 cuts no cursor", x.has(0, false), true);
        DUE.is("43 cuts no view", x.viewText(0), "[2/5, null, 4/0]");
        DUE.outOfBounds("43 view 2", () -> x.viewSet(2, 41, 5));
        DUE.outOfBounds("43 view -1", () -> x.viewSet(-1, 0, 5));
        DUE.badArgument("43 place 41", () -> x.viewSet(0, 41, 5));
        DUE.badArgument("43 place -1", () -> x.viewSet(0, -1, 5));
        DUE.badArgument("43 code 1000", () -> x.viewSet(0, 0, 1000));
        DUE.badArgument("43 code -2", () -> x.viewSet(0, 0, -2));
        x.room(0, 3);
        DUE.badState("43 lost", () -> x.viewSet(0, 0, 5));
        DUE.badArgument("43 lost, code ahead", () -> x.viewSet(0, 0, 1000));
    }

    private static void promise44ViewAdd() {
        Reelrow x = viewed();
        x.inner(1, 2);
        x.open(0, 0, 0, 0);
        x.open(1, 1, 0, 0);
        DUE.is("44 how many then", x.viewAdd(1, 1, 35), 2);
        DUE.is("44 in it", x.viewText(1), "[3/0, 3/5]");
        DUE.is("44 in view 0, too", x.viewText(0), "[2/0, 3/0, 3/5, 4/0]");
        DUE.is("44 in the row", x.text(0, true), "10 20 30 35 40 50");
        DUE.badState("44 cuts cursors", () -> x.has(0, false));
        DUE.is("44 not of other rows", x.has(1, false), false);
        DUE.is("44 ahead", x.viewAdd(1, 0, -1), 3);
        DUE.is("44 place above", x.viewAdd(1, 4, 5), -9);
        DUE.is("44 the inner one keeps view 0", x.viewCount(0, 0), 5);
        x.open(0, 0, 0, 0);
        DUE.is("44 view 0, above", x.viewAdd(0, 40, 5), -9);
        DUE.badState("44 -9 cuts cursors, too", () -> x.has(0, false));
        DUE.badState("44 -9 cuts the inner one, too", () -> x.viewText(1));
        DUE.is("44 at the end of view 0", x.viewAdd(0, 5, 45), 6);
        DUE.is("44 in the row again", x.text(0, true), "10 20 -1 30 35 40 45 50");
        DUE.outOfBounds("44 view 2", () -> x.viewAdd(2, 41, 5));
        DUE.outOfBounds("44 view -1", () -> x.viewAdd(-1, 0, 5));
        DUE.badArgument("44 place 41", () -> x.viewAdd(0, 41, 5));
        DUE.badArgument("44 place -1", () -> x.viewAdd(0, -1, 5));
        DUE.badArgument("44 code 1000", () -> x.viewAdd(1, 0, 1000));
        DUE.badArgument("44 code -2", () -> x.viewAdd(0, 0, -2));
        DUE.badState("44 not there", () -> x.viewAdd(1, 0, 5));
        x.setSize(0, 29);
        x.view(0, 0, 29, 29);
        DUE.is("44 the last that fits", x.viewAdd(0, 0, 5), 1);
        x.open(0, 0, 0, 0);
        DUE.badState("44 full", () -> x.viewAdd(0, 0, 5));
        DUE.badState("44 full goes ahead of -9", () -> x.viewAdd(0, 40, 5));
        DUE.is("44 a throw cuts nothing", x.has(0, false), true);
        viewsOfOneRow();
    }

    private static void viewsOfOneRow() {
        Reelrow x = viewed();
        x.view(1, 0, 1, 2);
        x.viewAdd(1, 0, 5);
        DUE.badState("44 view 1, if not of view 0, cuts view 0", () -> x.viewText(0));
        DUE.is("44 and is there", x.viewText(1), "[0/5, 2/0]");
        x.view(0, 0, 0, 1);
        x.viewAdd(0, 0, 6);
        DUE.badState("44 view 0 cuts view 1", () -> x.viewText(1));
        x.view(1, 1, 0, 0);
        x.viewAdd(0, 0, 7);
        DUE.is("44 not one of another row", x.viewText(1), "[]");
        x.viewAdd(1, 0, 8);
        DUE.is("44 nor the other way", x.viewText(0), "[0/7, 0/6, 1/0]");
    }

    private static void promise45ViewRemove() {
        Reelrow x = viewed();
        x.inner(1, 3);
        x.open(0, 0, 0, 0);
        DUE.is("45 its code", x.viewRemove(1, 1), 40);
        DUE.is("45 out of it", x.viewText(1), "[3/0]");
        DUE.is("45 out of view 0", x.viewText(0), "[2/0, 3/0]");
        DUE.is("45 out of the row", x.text(0, true), "10 20 30 50");
        DUE.badState("45 cuts cursors", () -> x.has(0, false));
        DUE.is("45 no such place of it", x.viewRemove(1, 1), -9);
        DUE.is("45 view 0 is there", x.viewCount(0, 0), 2);
        x.open(0, 0, 0, 0);
        DUE.is("45 no such place of view 0", x.viewRemove(0, 2), -9);
        DUE.badState("45 -9 cuts cursors, too", () -> x.has(0, false));
        DUE.badState("45 -9 cuts the inner one, too", () -> x.viewText(1));
        DUE.is("45 view 0", x.viewRemove(0, 0), 20);
        DUE.is("45 left", x.viewText(0), "[3/0]");
        DUE.outOfBounds("45 view 2", () -> x.viewRemove(2, 41));
        DUE.outOfBounds("45 view -1", () -> x.viewRemove(-1, 0));
        DUE.badArgument("45 place 41", () -> x.viewRemove(1, 41));
        DUE.badArgument("45 place -1", () -> x.viewRemove(0, -1));
        DUE.badState("45 not there", () -> x.viewRemove(1, 0));
    }

    private static void promise46ViewFind() {
        Reelrow x = Due.with(3, 10, 20, 25, -1, 21, 10);
        x.view(0, 3, 1, 5);
        DUE.is("46 first", x.viewFind(0, 29, 0), 0);
        DUE.is("46 last", x.viewFind(0, 29, 1), 3);
        DUE.is("46 whether", x.viewFind(0, 29, 2), 1);
        DUE.is("46 nothing", x.viewFind(0, -1, 0), 2);
        DUE.is("46 first, not in it", x.viewFind(0, 10, 0), -1);
        DUE.is("46 last, not in it", x.viewFind(0, 10, 1), -1);
        DUE.is("46 whether, not in it", x.viewFind(0, 10, 2), 0);
        DUE.outOfBounds("46 view 2", () -> x.viewFind(2, 1000, 0));
        DUE.outOfBounds("46 view -1", () -> x.viewFind(-1, 1, 0));
        DUE.badArgument("46 code 1000", () -> x.viewFind(1, 1000, 0));
        DUE.badArgument("46 code -2", () -> x.viewFind(0, -2, 0));
        DUE.badArgument("46 how 3", () -> x.viewFind(0, 1, 3));
        DUE.badArgument("46 how -1", () -> x.viewFind(0, 1, -1));
        DUE.badState("46 not there", () -> x.viewFind(1, 1, 0));
    }

    private static void promise47ViewClear() {
        Reelrow x = viewed();
        x.inner(0, 2);
        x.open(2, 0, 2, 0);
        DUE.is("47 how many the row has then", x.viewClear(1), 3);
        DUE.is("47 out of the row", x.text(0, true), "10 40 50");
        DUE.is("47 out of view 0", x.viewText(0), "[4/0]");
        DUE.is("47 empty", x.viewText(1), "[]");
        DUE.badState("47 cuts cursors", () -> x.has(2, false));
        DUE.is("47 an empty one", x.viewClear(1), 3);
        DUE.is("47 it takes again", x.viewAdd(1, 0, 5), 1);
        DUE.is("47 at its old place", x.text(0, true), "10 5 40 50");
        DUE.is("47 view 0", x.viewClear(0), 2);
        DUE.badState("47 view 0 cuts the inner one", () -> x.viewText(1));
        x.open(2, 0, 2, 0);
        DUE.is("47 no change", x.viewClear(0), 2);
        DUE.badState("47 no change cuts, too", () -> x.has(2, false));
        DUE.outOfBounds("47 view 2", () -> x.viewClear(2));
        DUE.outOfBounds("47 view -1", () -> x.viewClear(-1));
        DUE.badState("47 not there", () -> x.viewClear(1));
    }
}
