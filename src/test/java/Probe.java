import java.nio.charset.StandardCharsets;
import java.util.Arrays;

/** What the tests share: objects made from texts, and the comparing of answers. */
final class Probe {
    /** A call whose answer or exception is looked at. */
    interface Call {
        Object run();
    }

    static final Class<?> STATE = IllegalStateException.class;
    static final Class<?> INDEX = IndexOutOfBoundsException.class;
    static final Class<?> ARGUMENT = IllegalArgumentException.class;

    static final int[] ODD_INDEXES = {-1, -2, 64, 1000, Integer.MIN_VALUE, Integer.MAX_VALUE};

    static final String SQUARE = "polygon 0 0 2 0 2 2 0 2";
    /** Points 0 to 4 at y 0, 5 to 9 at y 1, then two a row. */
    static final String ELL = "polygon 0 0 4 0 4 1 1 1 1 4 0 4";
    /** Four points a row, y 0 to 3; between the arms is nothing. */
    static final String YOU = "polygon 0 0 3 0 3 3 2 3 2 1 1 1 1 3 0 3";
    static final String COMB = "polygon 0 0 14 0 13 4 12 1 10 1 9 4 8 1 6 1 5 4 4 1 2 1 1 4";

    private static int asked = 0;
    private static int wrong = 0;

    static void due(String what, Object got, Object want) {
        asked++;
        if (!String.valueOf(got).equals(String.valueOf(want))) {
            wrong++;
            System.out.println(what + " answered " + got + ", due is " + want);
        }
    }

    /** Runs the test of one sentence; whatever it throws is wrong, and the next sentence's test goes on. */
    static void sentence(String sentence, Runnable test) {
        int wrongBefore = wrong;
        try {
            test.run();
        } catch (RuntimeException e) {
            due("its test", e, "no exception");
        }
        if (wrong != wrongBefore) {
            System.out.println("BROKEN " + sentence);
        }
    }

    static void fails(String what, Class<?> want, Call call) {
        String got;
        try {
            got = String.valueOf(call.run());
        } catch (RuntimeException e) {
            got = e.getClass().getName();
        }
        due(what, got, want.getName());
    }

    /** Ends the test program, with 1 if an answer was wrong. */
    static void end(String name) {
        System.out.println(name + ": " + asked + " answers, " + wrong + " wrong");
        if (wrong != 0 || asked == 0) {
            System.exit(1);
        }
    }

    /** Appends a text, filled up with blanks to whole calls of append; answers what the last one answered. */
    static int append(GalleryGuards g, String text) {
        byte[] bytes = text.getBytes(StandardCharsets.ISO_8859_1);
        byte[] padded = Arrays.copyOf(bytes, (bytes.length + 19) / 20 * 20);
        Arrays.fill(padded, bytes.length, padded.length, (byte) ' ');
        int last = g.buffered();
        for (int i = 0; i < padded.length; i += 20) {
            last = g.append(word(padded, i), word(padded, i + 4), word(padded, i + 8), word(padded, i + 12),
                    word(padded, i + 16));
        }
        return last;
    }

    private static int word(byte[] bytes, int at) {
        return (bytes[at] & 255) << 24 | (bytes[at + 1] & 255) << 16 | (bytes[at + 2] & 255) << 8 | bytes[at + 3] & 255;
    }

    static GalleryGuards loaded(String text) {
        GalleryGuards g = new GalleryGuards();
        append(g, text);
        g.load(text.length());
        return g;
    }

    /** Loads a text that has an error and looks at the exception, the code and the position. */
    static void refused(String text, int code, int position) {
        GalleryGuards g = new GalleryGuards();
        refusedBy(g, text, code, position);
        due("points() after " + text, g.points(), 0);
    }

    static void refusedBy(GalleryGuards g, String text, int code, int position) {
        append(g, text);
        fails("load of " + text, ARGUMENT, () -> g.load(text.length()));
        due("parseError() of " + text, g.parseError(), code);
        due("errorPosition() of " + text, g.errorPosition(), position);
        due("buffered() after " + text, g.buffered(), 0);
    }

    static void accepted(String text, int points) {
        GalleryGuards g = new GalleryGuards();
        append(g, text);
        due("load of " + text, g.load(text.length()), points);
        due("parseError() of " + text, g.parseError(), 0);
        due("errorPosition() of " + text, g.errorPosition(), GalleryGuards.NONE);
    }

    static long set(int... elements) {
        long set = 0;
        for (int e : elements) {
            set |= 1L << e;
        }
        return set;
    }

    /** All that the state can be told by and how much can be undone: for undo, and calls that must change nothing. */
    static String stateOf(GalleryGuards g) {
        return planOf(g) + '/' + g.undoable();
    }

    static String planOf(GalleryGuards g) {
        StringBuilder s = new StringBuilder();
        for (int v = 0; v < g.vertices(); v++) {
            s.append(g.vertexX(v)).append(',').append(g.vertexY(v)).append(' ');
        }
        s.append('/').append(g.points()).append('/');
        for (int i = 0; i < g.guards(); i++) {
            s.append(g.guardAt(i)).append('r').append(g.guardRange(i)).append(' ');
        }
        s.append('/');
        for (int i = 0; i < g.treasures(); i++) {
            s.append(g.treasureAt(i)).append(' ');
        }
        return s.toString();
    }

    private Probe() {
    }
}
