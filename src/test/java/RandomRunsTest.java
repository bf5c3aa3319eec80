import java.lang.reflect.InvocationTargetException;
import java.lang.reflect.Method;
import java.nio.charset.StandardCharsets;
import java.util.ArrayList;
import java.util.Arrays;
import java.util.List;
import java.util.Random;

/** Long runs of chance calls: the class and the model must answer each call alike. */
public final class RandomRunsTest {
    private static final int RUNS = Integer.getInteger("runs", 120);
    private static final int CALLS = 512;

    private final Random random;
    private final GalleryGuards guards = new GalleryGuards();
    private final Model model = new Model();
    private final List<String> told = new ArrayList<>();
    private int calls = 0;

    private RandomRunsTest(long seed) {
        random = new Random(seed);
    }

    private static Method method(Class<?> owner, String name) throws ReflectiveOperationException {
        for (Method m : owner.getDeclaredMethods()) {
            if (m.getName().equals(name)) {
                m.setAccessible(true);
                return m;
            }
        }
        throw new NoSuchMethodException(name);
    }

    private static String answer(Object target, String name, Object[] args) throws ReflectiveOperationException {
        try {
            return String.valueOf(method(target.getClass(), name).invoke(target, args));
        } catch (InvocationTargetException e) {
            if (e.getCause() instanceof Error) {
                throw new IllegalStateException(e.getCause());
            }
            return "throws." + e.getCause().getClass().getSimpleName();
        }
    }

    private String call(String name, Object... args) throws ReflectiveOperationException {
        calls++;
        String got = answer(guards, name, args);
        String due = answer(model, name, args);
        told.add(name + Arrays.toString(args) + " -> " + got);
        if (!got.equals(due)) {
            for (String line : told) {
                System.out.println("  " + line);
            }
            System.out.println(name + Arrays.toString(args) + " answered " + got + ", due is " + due);
            System.exit(1);
        }
        return got;
    }

    // ---- texts

    private String blanks() {
        return " ".repeat(random.nextInt(8) == 0 ? random.nextInt(4) : 1);
    }

    private String number(int value) {
        return (random.nextInt(12) == 0 ? "0" : "") + value;
    }

    private String text() {
        List<int[]> corners = random.nextInt(3) == 0
                ? Shapes.corners(Shapes.DRAWN[random.nextInt(Shapes.DRAWN.length)])
                : Shapes.grown(random, 3 + random.nextInt(10), 20 + random.nextInt(200));
        StringBuilder text = new StringBuilder(random.nextInt(6) == 0 ? "  polygon" : "polygon");
        for (int[] c : corners) {
            text.append(text.length() < 10 ? blanks() : " ").append(number(c[0])).append(" ").append(number(c[1]));
        }
        Model.State state = new Model.State(corners, new ArrayList<>(), new ArrayList<>());
        int lines = random.nextInt(10);
        for (int i = 0; i < lines; i++) {
            int[] p = state.points().get(random.nextInt(state.points().size()));
            String place = blanks() + number(p[0]) + " " + number(p[1]);
            text.append(blanks()).append(';').append(blanks());
            if (random.nextBoolean()) {
                text.append("guard").append(place);
                if (random.nextBoolean()) {
                    text.append(blanks()).append("range").append(blanks()).append(number(random.nextInt(8)));
                }
            } else {
                text.append("treasure").append(place).append(" ").append(number(1 + random.nextInt(999)));
            }
        }
        return text.append(" ".repeat(random.nextInt(3))).toString();
    }

    private static final String[] SCRAPS = {
        ";", " ", "guard", "treasure", "range", "polygon", "0", "1", "7", "15", "16", "99", "100", "999", "1000",
        "00001", "abcdefgh", "abcdefghi", "A", "\t", "\u00e9", "-", ".", "guard 1 1", "; guard 1 1", " 3 3", "\0",
        "; treasure 1 1 5", "; treasure 1 1 0", "range 5", "0000", "{", "`", "/", ":",
    };

    /** Spoils a text at a few places. */
    private String spoilt(String text) {
        StringBuilder t = new StringBuilder(text);
        int times = random.nextInt(3);
        for (int i = 0; i < times; i++) {
            int at = random.nextInt(t.length() + 1);
            int kind = random.nextInt(4);
            if (kind == 0) {
                t.insert(at, SCRAPS[random.nextInt(SCRAPS.length)]);
            } else if (kind == 1 && at < t.length()) {
                t.deleteCharAt(at);
            } else if (kind == 2 && at < t.length()) {
                t.setCharAt(at, (char) ('0' + random.nextInt(10)));
            } else if (kind == 3) {
                t.append(SCRAPS[random.nextInt(SCRAPS.length)]);
            }
        }
        return t.toString();
    }

    private void feed(String text) throws ReflectiveOperationException {
        byte[] bytes = text.getBytes(StandardCharsets.ISO_8859_1);
        byte[] padded = Arrays.copyOf(bytes, (bytes.length + 19) / 20 * 20);
        Arrays.fill(padded, bytes.length, padded.length, (byte) (random.nextBoolean() ? ' ' : random.nextInt()));
        if (random.nextInt(12) > 0) {
            // leftovers of wild appends would spoil every text
            call("load", 0);
        }
        for (int i = 0; i < padded.length; i += 20) {
            Object[] words = new Object[5];
            for (int w = 0; w < 5; w++) {
                int word = 0;
                for (int k = 0; k < 4; k++) {
                    word = word << 8 | padded[i + 4 * w + k] & 255;
                }
                words[w] = word;
            }
            call("append", words);
        }
        call("load", random.nextInt(20) == 0 ? random.nextInt(700) - 20 : bytes.length);
        call("parseError");
        call("errorPosition");
        call("buffered");
    }

    // ---- calls

    /** A number that is mostly below the bound. */
    private int near(int bound) {
        int kind = random.nextInt(16);
        if (kind == 0) {
            int[] odd = {-1, bound, bound + 1, Integer.MIN_VALUE, Integer.MAX_VALUE, -100, 64, 100};
            return odd[random.nextInt(odd.length)];
        }
        return random.nextInt(Math.max(1, bound));
    }

    private int point() {
        return near(model.points());
    }

    private int vertex() {
        return near(model.vertices());
    }

    private int guard() {
        return near(model.guards());
    }

    private void ask() throws ReflectiveOperationException {
        String[] plain = {"vertices", "doubleArea", "reflexVertices", "points", "boundary", "kernel", "diameter",
            "colourGuards", "vertexGuards", "edgeGuards", "guardNumber", "witnessNumber", "hiddenNumber", "guards",
            "unwatched", "redundantGuards", "bestPoint", "greedyGuards", "treasures", "watchedValue", "bestValue",
            "undoable", "parseError", "errorPosition", "buffered"};
        String[] ofPoint = {"pointX", "pointY", "visible", "farthest", "watchers"};
        String[] ofVertex = {"vertexX", "vertexY", "colour", "seenFromEdge", "triangleArea"};
        String[] ofGuard = {"guardAt", "guardRange", "watched"};
        String[] ofPair = {"sees", "linkDistance"};
        String[] ofFew = {"guardPoint", "witness"};
        switch (random.nextInt(11)) {
            case 0: case 1: case 2:
                call(plain[random.nextInt(plain.length)]);
                break;
            case 3:
                call(ofPoint[random.nextInt(ofPoint.length)], point());
                break;
            case 4:
                call(ofVertex[random.nextInt(ofVertex.length)], vertex());
                break;
            case 5:
                call(ofGuard[random.nextInt(ofGuard.length)], guard());
                break;
            case 6:
                call(ofPair[random.nextInt(ofPair.length)], point(), point());
                break;
            case 7:
                call(ofFew[random.nextInt(ofFew.length)], near(4));
                break;
            case 8:
                call("triangleVertex", near(model.vertices() - 2), near(3));
                break;
            case 9:
                call("pointAt", near(16), near(16));
                call("treasureAt", near(model.treasures()));
                break;
            default:
                call("draw", near(16));
                call("drawnByte", near(16));
                break;
        }
    }

    private void change() throws ReflectiveOperationException {
        switch (random.nextInt(11)) {
            case 0:
                call("addGuard", point(), near(random.nextBoolean() ? 6 : 100));
                break;
            case 1:
                call("removeGuard", guard());
                break;
            case 2:
                call("moveGuard", guard(), point());
                break;
            case 3:
                call("setRange", guard(), near(random.nextBoolean() ? 6 : 100));
                break;
            case 4: case 5:
                moveVertex();
                break;
            case 6: case 7:
                call("insertVertex", vertex(), near(16), near(16));
                break;
            case 8:
                call("deleteVertex", vertex());
                break;
            case 9:
                call("undo");
                break;
            default:
                call(random.nextBoolean() ? "save" : "restore", near(2));
                break;
        }
    }

    /** Mostly a small step, since far ones are seldom possible. */
    private void moveVertex() throws ReflectiveOperationException {
        int v = vertex();
        if (v < 0 || v >= model.vertices() || random.nextInt(4) == 0) {
            call("moveVertex", v, near(16), near(16));
        } else {
            call("moveVertex", v, model.vertexX(v) + random.nextInt(3) - 1, model.vertexY(v) + random.nextInt(3) - 1);
        }
    }

    private void run() throws ReflectiveOperationException {
        int askBefore = random.nextInt(6);
        for (int i = 0; i < askBefore; i++) {
            ask();
            change();
        }
        while (calls < CALLS - 45) {
            int kind = random.nextInt(60);
            if (kind == 0 || model.vertices() == 0) {
                feed(random.nextInt(3) == 0 ? spoilt(text()) : text());
            } else if (kind == 1) {
                call("append", random.nextInt(), random.nextInt(), random.nextInt(), random.nextInt(), random.nextInt());
            } else if (kind < 22) {
                change();
            } else {
                ask();
            }
        }
    }

    /** Texts alone, since most of a run's calls are about something else. */
    private void runTexts() throws ReflectiveOperationException {
        while (calls < CALLS - 45) {
            feed(spoilt(text()));
            call("points");
            call("guards");
            call("treasures");
        }
    }

    public static void main(String[] args) throws ReflectiveOperationException {
        for (int seed = 0; seed < RUNS; seed++) {
            RandomRunsTest run = new RandomRunsTest(seed);
            if (seed % 4 == 3) {
                run.runTexts();
            } else {
                run.run();
            }
        }
        System.out.println(RUNS + " runs of chance calls: all answers are as due");
    }
}
