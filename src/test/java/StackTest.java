/** Promises 17 to 20: stacks. */
public final class StackTest {
    private static final Due DUE = new Due("stacks");

    public static void main(String[] args) {
        promise17Push();
        promise18Pop();
        promise19Peek();
        promise20Search();
        DUE.done();
    }

    private static void promise17Push() {
        Reelrow x = new Reelrow();
        DUE.is("17 the code", x.push(2, 999), 999);
        DUE.is("17 nothing", x.push(2, -1), -1);
        DUE.is("17 on top", x.text(2, true), "999 -1");
        DUE.is("17 the other stack", x.push(3, 0), 0);
        DUE.is("17 of its own", x.text(3, true), "0");
        DUE.outOfBounds("17 row 1", () -> x.push(1, 1000));
        DUE.outOfBounds("17 row 4", () -> x.push(4, 1));
        DUE.outOfBounds("17 row -1", () -> x.push(-1, 1));
        DUE.badArgument("17 code 1000", () -> x.push(2, 1000));
        DUE.badArgument("17 code -2", () -> x.push(2, -2));
        x.setSize(3, 29);
        DUE.is("17 the last that fits", x.push(3, 5), 5);
        DUE.badState("17 full", () -> x.push(3, 5));
        DUE.badArgument("17 full, code ahead", () -> x.push(3, 1000));
    }

    private static void promise18Pop() {
        Reelrow x = Due.with(2, 10, -1, 30);
        DUE.is("18 the top", x.pop(2), 30);
        DUE.is("18 nothing", x.pop(2), -1);
        DUE.is("18 the last", x.pop(2), 10);
        DUE.is("18 empty", x.pop(2), -9);
        DUE.is("18 still empty", x.count(2, 0), 0);
        DUE.is("18 the other stack", x.pop(3), -9);
        DUE.outOfBounds("18 row 1", () -> x.pop(1));
        DUE.outOfBounds("18 row 4", () -> x.pop(4));
    }

    private static void promise19Peek() {
        Reelrow x = Due.with(3, 10, 20);
        DUE.is("19 the top", x.peek(3), 20);
        DUE.is("19 it stays", x.count(3, 0), 2);
        x.setElementAt(3, -1, 1);
        DUE.is("19 nothing", x.peek(3), -1);
        DUE.is("19 empty", x.peek(2), -9);
        DUE.outOfBounds("19 row 1", () -> x.peek(1));
        DUE.outOfBounds("19 row 4", () -> x.peek(4));
        x.open(0, 3, 0, 0);
        x.peek(3);
        DUE.is("19 cuts nothing", x.has(0, false), true);
    }

    private static void promise20Search() {
        Reelrow x = Due.with(2, 10, 20, 11, -1, 30);
        DUE.is("20 the top is 1", x.search(2, 39), 1);
        DUE.is("20 nothing", x.search(2, -1), 2);
        DUE.is("20 the last with the same", x.search(2, 10), 3);
        DUE.is("20 the second cell", x.search(2, 20), 4);
        DUE.is("20 none", x.search(2, 99), -1);
        DUE.is("20 the first cell", Due.with(3, 10, 20, 30).search(3, 11), 3);
        DUE.is("20 number 0 is not nothing", x.search(2, 0), -1);
        DUE.is("20 of empty", x.search(3, -1), -1);
        DUE.outOfBounds("20 row 1", () -> x.search(1, 1000));
        DUE.outOfBounds("20 row 4", () -> x.search(4, 1));
        DUE.badArgument("20 code 1000", () -> x.search(2, 1000));
        DUE.badArgument("20 code -2", () -> x.search(2, -2));
    }
}
