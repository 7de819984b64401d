import java.lang.reflect.Array;
import java.lang.reflect.Field;

/**
 * Promise 49, and the last number of promise 50, for objects that are not sound. No run of calls makes one, so a view is
 * bent from inside: this test alone knows how the class holds its state.
 */
public final class SoundTest {
    private static final Due DUE = new Due("sound");

    public static void main(String[] args) throws ReflectiveOperationException {
        for (int view = 0; view <= 1; view++) {
            bent("view " + view + " begins ahead of its row", view, -1, 3, false);
            bent("view " + view + " ends behind its row", view, 3, 2, false);
            bent("view " + view + " is behind its row", view, 5, 0, false);
            bent("view " + view + " has less than no cells", view, 2, -1, false);
            bent("view " + view + " is all of its row", view, 0, 4, true);
            bent("view " + view + " is empty at its row's end", view, 4, 0, true);
            lost("view " + view, view);
        }
        DUE.done();
    }

    private static Object span(Reelrow x, int view) throws ReflectiveOperationException {
        Field views = Reelrow.class.getDeclaredField("views");
        views.setAccessible(true);
        return Array.get(views.get(x), view);
    }

    private static void bend(Reelrow x, int view, String name, int value) throws ReflectiveOperationException {
        Object span = span(x, view);
        Field field = span.getClass().getDeclaredField(name);
        field.setAccessible(true);
        field.setInt(span, value);
    }

    private static Reelrow withViews() {
        Reelrow x = Due.with(1, 10, -1, 25, 999);
        x.view(0, 1, 1, 3);
        x.inner(1, 2);
        return x;
    }

    private static void bent(String what, int view, int from, int size, boolean due)
            throws ReflectiveOperationException {
        Reelrow x = withViews();
        bend(x, view, "from", from);
        bend(x, view, "size", size);
        DUE.is("49 " + what, x.isSound(), due);
        // All that the digest has ahead of its last number is told by the same calls, bent or not.
        DUE.is("50 " + what, x.digest() - 31 * aheadOfLast(x), due ? 1L : 0L);
    }

    private static long fold(long d, long v) {
        return d * 31 + v;
    }

    private static long aheadOfLast(Reelrow x) {
        long d = 7701;
        for (int row = 0; row <= 3; row++) {
            d = foldRow(d, x, row);
        }
        d = fold(fold(d, x.peek(2)), x.peek(3));
        for (int cursor = 0; cursor <= 2; cursor++) {
            d = fold(d, 2);
        }
        for (int view = 0; view <= 1; view++) {
            for (int what = 0; what <= 3; what++) {
                d = fold(d, x.viewCount(view, what));
            }
            d = fold(d, x.viewText(view).length());
        }
        return d;
    }

    private static long foldRow(long start, Reelrow x, int row) {
        long d = start;
        for (int what = 0; what <= 3; what++) {
            d = fold(d, x.count(row, what));
        }
        for (int place = 0; place < x.count(row, 0); place++) {
            d = fold(d, x.at(row, place, 0));
        }
        d = fold(fold(d, x.text(row, true).length()), x.text(row, false).length());
        d = fold(fold(d, x.end(row, false)), x.end(row, true));
        for (int how = 0; how <= 2 && x.count(row, 0) > 0; how++) {
            d = fold(d, x.find(row, x.end(row, false), how));
        }
        int next = (row + 1) % 4;
        return fold(fold(d, x.areEqual(row, next) ? 1 : 0), x.containsAll(row, next) ? 1 : 0);
    }

    /** A view that is not there need not be a part of its row. */
    private static void lost(String what, int view) throws ReflectiveOperationException {
        Reelrow x = withViews();
        x.room(1, -1);
        bend(x, view, "from", 5);
        DUE.is("49 lost " + what, x.isSound(), true);
    }
}
