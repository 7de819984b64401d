/** Promises 31 to 37: cursors. */
public final class CursorTest {
    private static final Due DUE = new Due("cursors");

    public static void main(String[] args) {
        promise31Open();
        promise32Has();
        promise33Go();
        promise34Place();
        promise35SetBy();
        promise36AddBy();
        promise37RemoveBy();
        goingBackAndTakingOut();
        DUE.done();
    }

    private static void promise31Open() {
        Reelrow x = Due.with(0, 10, 20, 30);
        DUE.is("31 kind 0", x.open(0, 0, 0, 0), 3);
        DUE.is("31 kind 2, whatever the place", x.open(1, 0, 2, 40), 3);
        DUE.is("31 kind 0, whatever the place", x.open(0, 0, 0, 2), 3);
        DUE.is("31 kind 0 stands ahead of all", x.go(0, false), 10);
        DUE.is("31 kind 1 at a place", x.open(2, 0, 1, 1), 2);
        DUE.is("31 it stands there", x.go(2, false), 20);
        DUE.is("31 kind 1 above", x.open(2, 0, 1, 4), -9);
        DUE.is("31 the old one stays", x.go(2, false), 30);
        DUE.is("31 kind 1 at the end", x.open(2, 0, 1, 3), 0);
        DUE.is("31 the old one is gone", x.place(2, false), 3);
        DUE.is("31 on another row", x.open(2, 1, 2, 0), 0);
        DUE.badState("31 of the new kind", () -> x.place(2, false));
        DUE.is("31 cuts no other", x.go(0, false), 20);
        DUE.outOfBounds("31 cursor 3", () -> x.open(3, 0, 3, 0));
        DUE.outOfBounds("31 cursor -1", () -> x.open(-1, 0, 0, 0));
        DUE.outOfBounds("31 row 4", () -> x.open(0, 4, 3, 0));
        DUE.outOfBounds("31 row -1", () -> x.open(0, -1, 0, 0));
        DUE.badArgument("31 kind 3", () -> x.open(0, 0, 3, 0));
        DUE.badArgument("31 kind -1", () -> x.open(0, 0, -1, 0));
        DUE.badArgument("31 place 41", () -> x.open(0, 0, 0, 41));
        DUE.badArgument("31 place -1", () -> x.open(0, 0, 2, -1));
        DUE.is("31 a throw leaves it", x.go(0, false), 30);
    }

    private static void promise32Has() {
        Reelrow x = Due.with(1, 10);
        x.open(0, 1, 1, 0);
        DUE.is("32 on", x.has(0, false), true);
        DUE.is("32 not back", x.has(0, true), false);
        x.go(0, false);
        DUE.is("32 not on", x.has(0, false), false);
        DUE.is("32 back", x.has(0, true), true);
        x.open(1, 1, 0, 0);
        x.open(2, 1, 2, 0);
        DUE.is("32 kind 0 on", x.has(1, false), true);
        DUE.is("32 kind 2 on", x.has(2, false), true);
        DUE.badState("32 kind 0 back", () -> x.has(1, true));
        DUE.badState("32 kind 2 back", () -> x.has(2, true));
        DUE.outOfBounds("32 cursor 3", () -> x.has(3, false));
        DUE.outOfBounds("32 cursor -1", () -> x.has(-1, false));
        x.add(1, 5, 0);
        DUE.badState("32 lost", () -> x.has(0, false));
        DUE.badState("32 never opened", () -> new Reelrow().has(0, false));
    }

    private static void promise33Go() {
        Reelrow x = Due.with(2, 10, -1);
        x.open(0, 2, 1, 0);
        DUE.is("33 on", x.go(0, false), 10);
        DUE.is("33 on over nothing", x.go(0, false), -1);
        DUE.is("33 at the end", x.go(0, false), -9);
        DUE.is("33 back", x.go(0, true), -1);
        DUE.is("33 back again", x.go(0, true), 10);
        DUE.is("33 ahead of all", x.go(0, true), -9);
        DUE.is("33 on again", x.go(0, false), 10);
        x.open(1, 2, 0, 0);
        x.open(2, 2, 2, 0);
        DUE.is("33 kind 0", x.go(1, false), 10);
        DUE.is("33 kind 2", x.go(2, false), 10);
        DUE.badState("33 kind 0 back", () -> x.go(1, true));
        DUE.badState("33 kind 2 back", () -> x.go(2, true));
        DUE.is("33 a throw does not move it", x.go(2, false), -1);
        DUE.outOfBounds("33 cursor 3", () -> x.go(3, true));
        DUE.outOfBounds("33 cursor -1", () -> x.go(-1, true));
        x.pop(2);
        DUE.badState("33 lost", () -> x.go(0, false));
    }

    private static void promise34Place() {
        Reelrow x = Due.with(3, 10, 20);
        x.open(0, 3, 1, 0);
        DUE.is("34 on at first", x.place(0, false), 0);
        DUE.is("34 back at first", x.place(0, true), -1);
        x.go(0, false);
        DUE.is("34 on", x.place(0, false), 1);
        DUE.is("34 back", x.place(0, true), 0);
        x.go(0, false);
        DUE.is("34 on at the end", x.place(0, false), 2);
        DUE.is("34 back at the end", x.place(0, true), 1);
        x.open(1, 3, 0, 0);
        x.open(2, 3, 2, 0);
        DUE.badState("34 kind 0", () -> x.place(1, false));
        DUE.badState("34 kind 2", () -> x.place(2, false));
        DUE.outOfBounds("34 cursor 3", () -> x.place(3, false));
        DUE.outOfBounds("34 cursor -1", () -> x.place(-1, false));
        x.room(3, 0);
        DUE.badState("34 lost", () -> x.place(0, false));
    }

    private static void promise35SetBy() {
        Reelrow x = Due.with(0, 10, 20, 30);
        x.open(0, 0, 1, 1);
        x.open(1, 0, 0, 0);
        x.view(0, 0, 0, 3);
        DUE.is("35 over none yet", x.setBy(0, 5), -9);
        x.go(0, false);
        DUE.is("35 over one", x.setBy(0, 999), 3);
        DUE.is("35 that is still the one", x.setBy(0, 25), 3);
        DUE.is("35 changed", x.text(0, true), "10 25 30");
        x.go(0, true);
        x.go(0, true);
        DUE.is("35 at the end", x.go(0, true), -9);
        DUE.is("35 the last it went over", x.setBy(0, -1), 3);
        DUE.is("35 changed, too", x.text(0, true), "-1 25 30");
        DUE.is("35 cuts no cursor", x.go(1, false), -1);
        DUE.is("35 cuts no view", x.viewCount(0, 0), 3);
        x.addBy(0, 7);
        DUE.is("35 put in behind that", x.setBy(0, 8), -9);
        x.go(0, false);
        x.removeBy(0);
        DUE.is("35 took out behind that", x.setBy(0, 8), -9);
        DUE.is("35 unchanged", x.text(0, true), "7 25 30");
        x.open(1, 0, 0, 0);
        x.open(2, 0, 2, 0);
        x.go(1, false);
        x.go(2, false);
        DUE.badState("35 kind 0", () -> x.setBy(1, 5));
        DUE.badState("35 kind 2", () -> x.setBy(2, 5));
        DUE.outOfBounds("35 cursor 3", () -> x.setBy(3, 1000));
        DUE.outOfBounds("35 cursor -1", () -> x.setBy(-1, 5));
        DUE.badArgument("35 code 1000 ahead of the kind", () -> x.setBy(2, 1000));
        DUE.badArgument("35 code -2", () -> x.setBy(0, -2));
        x.sort(0, false);
        DUE.badState("35 lost", () -> x.setBy(0, 5));
        DUE.badArgument("35 lost, but the code is ahead", () -> x.setBy(0, 1000));
    }

    private static void promise36AddBy() {
        Reelrow x = Due.with(1, 10, 20);
        x.open(0, 1, 1, 1);
        DUE.is("36 how many", x.addBy(0, 15), 3);
        DUE.is("36 where it stands", x.text(1, true), "10 15 20");
        DUE.is("36 it stands behind", x.place(0, false), 2);
        DUE.is("36 another one behind", x.addBy(0, -1), 4);
        DUE.is("36 in order", x.text(1, true), "10 15 -1 20");
        DUE.is("36 went over none", x.removeBy(0), -9);
        DUE.is("36 back over it", x.go(0, true), -1);
        x.open(1, 1, 0, 0);
        x.open(2, 0, 2, 0);
        x.view(0, 1, 0, 2);
        x.view(1, 0, 0, 0);
        x.addBy(0, 5);
        DUE.badState("36 cuts other cursors", () -> x.has(1, false));
        DUE.badState("36 cuts views", () -> x.viewText(0));
        DUE.is("36 not of other rows", x.has(2, false), false);
        DUE.is("36 nor their views", x.viewText(1), "[]");
        DUE.is("36 nor itself", x.has(0, false), true);
        x.open(1, 1, 0, 0);
        DUE.badState("36 kind 0", () -> x.addBy(1, 5));
        DUE.badState("36 kind 2", () -> x.addBy(2, 5));
        DUE.outOfBounds("36 cursor 3", () -> x.addBy(3, 1000));
        DUE.outOfBounds("36 cursor -1", () -> x.addBy(-1, 5));
        DUE.badArgument("36 code 1000", () -> x.addBy(0, 1000));
        DUE.badArgument("36 code -2", () -> x.addBy(0, -2));
        x.setSize(1, 29);
        x.open(0, 1, 1, 29);
        DUE.is("36 the last that fits", x.addBy(0, 5), 30);
        x.open(1, 1, 0, 0);
        DUE.badState("36 full", () -> x.addBy(0, 5));
        DUE.is("36 a throw cuts nothing", x.has(1, false), true);
        DUE.badArgument("36 full, code ahead", () -> x.addBy(0, 1000));
        x.wipe(1, 0);
        DUE.badState("36 lost", () -> x.addBy(0, 5));
    }

    private static void promise37RemoveBy() {
        Reelrow x = Due.with(2, 10, 20, 30);
        x.open(0, 2, 0, 0);
        x.open(1, 2, 2, 0);
        x.view(0, 2, 0, 1);
        DUE.badState("37 kind 2", () -> x.removeBy(1));
        DUE.is("37 a throw cuts nothing", x.has(0, false), true);
        DUE.is("37 over none yet", x.removeBy(0), -9);
        DUE.badState("37 -9 cuts, too", () -> x.has(1, false));
        DUE.badState("37 -9 cuts views, too", () -> x.viewText(0));
        x.go(0, false);
        x.open(1, 2, 1, 3);
        DUE.is("37 how many then", x.removeBy(0), 2);
        DUE.badState("37 cuts", () -> x.has(1, false));
        DUE.is("37 taken out", x.text(2, true), "20 30");
        DUE.is("37 only once", x.removeBy(0), -9);
        DUE.is("37 it stands where the cell was", x.go(0, false), 20);
        DUE.is("37 the next one", x.removeBy(0), 1);
        DUE.is("37 kind 1", x.open(1, 2, 1, 1), 0);
        x.go(1, true);
        DUE.is("37 kind 1, after going back", x.removeBy(1), 0);
        DUE.outOfBounds("37 cursor 3", () -> x.removeBy(3));
        DUE.outOfBounds("37 cursor -1", () -> x.removeBy(-1));
        DUE.badState("37 lost", () -> x.removeBy(0));
    }

    private static void goingBackAndTakingOut() {
        Reelrow x = Due.with(3, 10, 20, 30, 40);
        x.open(0, 3, 1, 3);
        x.go(0, true);
        x.removeBy(0);
        DUE.is("37 back: on", x.place(0, false), 2);
        DUE.is("37 back: what is on", x.go(0, false), 40);
        x.go(0, true);
        x.go(0, true);
        x.go(0, false);
        DUE.is("37 turned", x.removeBy(0), 2);
        DUE.is("37 turned: left", x.text(3, true), "10 40");
        DUE.is("37 turned: stands", x.place(0, true), 0);
    }
}
