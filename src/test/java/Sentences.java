import java.util.Arrays;
import java.util.Collections;
import java.util.List;
import java.util.function.Consumer;
import java.util.function.Supplier;

/** What the tests of the document's sentences share: a test of its own for each quote. */
abstract class Sentences {
    /** A call of one object. */
    interface Ask {
        Object of(GalleryGuards g);
    }

    /** A call of one object with one number. */
    interface AskWith {
        Object of(GalleryGuards g, int number);
    }

    static final String NO_POLYGON = "Throws `IllegalStateException` if there is no polygon";
    static final String NO_VERTEX = "Throws `IndexOutOfBoundsException` if there is no such vertex";
    static final String NO_POINT = "Throws `IndexOutOfBoundsException` if there is no such point";
    static final String NO_GUARD = "Throws `IndexOutOfBoundsException` if there is no such guard";
    static final String VERTEX = "- `vertex`: number of the vertex";
    static final String POINT = "- `point`: number of the point";
    static final String GUARD = "- `guard`: number of the guard";
    static final String IS_A_CHANGE = "This is a change.";

    /** Twelve vertices, most of them with an angle of 180 degrees. */
    static final String TWELVE = "polygon 0 0 1 0 2 0 4 0 4 1 4 3 4 4 2 4 0 4 0 3 0 2 0 1";
    /** 64 points, all of which see one another. */
    static final String FULL = "polygon 0 0 7 0 7 7 0 7";
    static final String TRIANGLE = "polygon 0 0 3 0 0 3";
    static final String SPIRAL = "polygon 0 0 9 0 9 7 2 7 2 4 6 4 6 5 3 5 3 6 8 6 8 1 0 1";

    static final String GUARDED = Probe.SQUARE + ";guard 0 0 range 1;guard 1 0 range 2;guard 2 0 range 3";

    static final Class<?> STATE = Probe.STATE;
    static final Class<?> INDEX = Probe.INDEX;
    static final Class<?> ARGUMENT = Probe.ARGUMENT;

    private final Document document;
    private String part = "";

    Sentences(Document document) {
        this.document = document;
    }

    abstract void all();

    void part(String name) {
        part = name;
    }

    void promise(int number) {
        part("Promise " + number);
    }

    /** The document says the quote in the present part, and the test tells whether it holds. */
    void says(String quote, Runnable test) {
        Probe.sentence(part + ": " + quote, () -> {
            due("the document says so", document.quote(part, quote), true);
            test.run();
        });
    }

    static void due(String what, Object got, Object want) {
        Probe.due(what, got, want);
    }

    static void fails(String what, Class<?> want, Probe.Call call) {
        Probe.fails(what, want, call);
    }

    static GalleryGuards loaded(String text) {
        return Probe.loaded(text);
    }

    /** Loads a text into an object whose buffer is empty. */
    static int reload(GalleryGuards g, String text) {
        Probe.append(g, text);
        return g.load(text.length());
    }

    static long set(int... elements) {
        return Probe.set(elements);
    }

    static long everyPoint(GalleryGuards g) {
        return g.points() == 64 ? -1L : (1L << g.points()) - 1;
    }

    static boolean has(long set, int element) {
        return (set >>> element & 1) != 0;
    }

    static List<Integer> elements(long set) {
        Integer[] found = new Integer[Long.bitCount(set)];
        int count = 0;
        for (int i = 0; i < 64; i++) {
            if (has(set, i)) {
                found[count++] = i;
            }
        }
        return Arrays.asList(found);
    }

    /** The place of a point, for tests that do not want to count numbers. */
    static int at(GalleryGuards g, int x, int y) {
        int point = g.pointAt(x, y);
        due("(" + x + ", " + y + ") is a point", point >= 0, true);
        return point;
    }

    /** Each call must throw IllegalStateException on every object that has no polygon. */
    static void noPolygon(Ask... calls) {
        GalleryGuards unread = new GalleryGuards();
        Probe.append(unread, Probe.SQUARE);
        GalleryGuards refused = new GalleryGuards();
        Probe.refusedBy(refused, "polygon 0 0 2 0 2 2 0 2;guard 3 3", 4, 32);
        for (int i = 0; i < calls.length; i++) {
            Ask call = calls[i];
            GalleryGuards fresh = new GalleryGuards();
            fails("call " + i + " of a new object", STATE, () -> call.of(fresh));
            fails("call " + i + " before load", STATE, () -> call.of(unread));
            fails("call " + i + " after a refused text", STATE, () -> call.of(refused));
        }
    }

    /** The call answers for each number below the count, and throws IndexOutOfBoundsException for the others. */
    static void below(int count, GalleryGuards g, AskWith call) {
        for (int i = 0; i < count; i++) {
            int number = i;
            try {
                due("the call with " + i + " answers", call.of(g, number) != null, true);
            } catch (RuntimeException e) {
                due("the call with " + i, e, "an answer");
            }
        }
        int[] others = {-1, -2, -64, Integer.MIN_VALUE, count, count + 1, count + 64, 1000, Integer.MAX_VALUE};
        for (int number : others) {
            fails("the call with " + number + " of " + count, INDEX, () -> call.of(g, number));
        }
    }

    /** The call throws IllegalArgumentException outside of the range; the ends of the range must be tried elsewhere. */
    static void outside(int least, int greatest, GalleryGuards g, AskWith call) {
        int[] others = {least - 1, Integer.MIN_VALUE, greatest + 1, 1000, Integer.MAX_VALUE};
        for (int number : others) {
            fails("the call with " + number, ARGUMENT, () -> call.of(g, number));
        }
    }

    /** The call throws, and leaves all as it was that can be asked for. */
    static void leavesAll(GalleryGuards g, Class<?> want, Probe.Call call) {
        String before = Probe.stateOf(g);
        fails("the call", want, call);
        due("the state after the call", Probe.stateOf(g), before);
    }

    static void same(String what, String got, String want) {
        due(what + ", but for", Everything.difference(got, want), "");
    }

    /** The call is one change: undo takes back just what it did. */
    static void isChange(Supplier<GalleryGuards> maker, Ask change) {
        GalleryGuards g = maker.get();
        GalleryGuards untouched = maker.get();
        int before = g.undoable();
        change.of(g);
        due("undoable() after the change", g.undoable(), before + 1);
        due("the state was changed", Probe.planOf(g).equals(Probe.planOf(untouched)), false);
        due("undo()", g.undo(), before);
        same("all is as before", Everything.of(g), Everything.of(untouched));
    }

    /** Gives the test the same polygon from each of its vertices on, in both directions. */
    static void everyWay(String numbers, Consumer<String> test) {
        List<int[]> corners = Shapes.corners(numbers);
        for (int direction = 0; direction < 2; direction++) {
            for (int i = 0; i < corners.size(); i++) {
                test.accept("polygon " + Shapes.numbers(corners));
                Collections.rotate(corners, 1);
            }
            Collections.reverse(corners);
        }
    }

    static void refusedEveryWay(String numbers) {
        everyWay(numbers, text -> Probe.refused(text, 3, text.length()));
    }
}
