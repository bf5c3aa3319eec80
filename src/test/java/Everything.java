import java.lang.reflect.InvocationTargetException;
import java.lang.reflect.Method;
import java.lang.reflect.Modifier;
import java.util.Arrays;
import java.util.Comparator;
import java.util.List;

/** All that can be found out about an object, as a text: objects that answer alike in all of it are in one state. */
final class Everything {
    private static final List<String> CHANGING = List.of("append", "load", "draw", "addGuard", "removeGuard",
            "moveGuard", "setRange", "moveVertex", "insertVertex", "deleteVertex", "undo", "save", "restore");
    private static final int[] NUMBERS = {-1, 0, 1, 2, 3, 4, 5, 6, 7, 8, 9, 10, 11, 12, 13, 14, 15, 16, 24, 63, 64};

    /** What the calls answer that only ask. */
    static String asked(GalleryGuards g) {
        return asked(g, List.of());
    }

    /** The same, but for what is no part of the state. */
    static String askedOfState(GalleryGuards g) {
        return asked(g, List.of("buffered", "parseError", "errorPosition", "undoable", "drawnByte"));
    }

    private static String asked(GalleryGuards g, List<String> not) {
        Method[] methods = GalleryGuards.class.getDeclaredMethods();
        Arrays.sort(methods, Comparator.comparing(Method::getName));
        StringBuilder told = new StringBuilder();
        for (Method m : methods) {
            if (Modifier.isPublic(m.getModifiers()) && !CHANGING.contains(m.getName()) && !not.contains(m.getName())) {
                askAll(g, m, told);
            }
        }
        return told.toString();
    }

    private static void askAll(GalleryGuards g, Method m, StringBuilder told) {
        told.append(m.getName());
        int count = m.getParameterCount();
        for (int i = 0; i < (count > 0 ? NUMBERS.length : 1); i++) {
            for (int k = 0; k < (count > 1 ? NUMBERS.length : 1); k++) {
                Object[] args = new Object[] {NUMBERS[i], NUMBERS[k]};
                told.append(' ').append(answer(g, m, Arrays.copyOf(args, count)));
            }
        }
        told.append('\n');
    }

    private static String answer(GalleryGuards g, Method m, Object[] args) {
        try {
            return String.valueOf(m.invoke(g, args));
        } catch (InvocationTargetException e) {
            return e.getCause().getClass().getSimpleName();
        } catch (IllegalAccessException e) {
            throw new IllegalStateException(e);
        }
    }

    private static String answerOf(Probe.Call call) {
        try {
            return String.valueOf(call.run());
        } catch (RuntimeException e) {
            return e.getClass().getSimpleName();
        }
    }

    /** What asking tells, and then what undo, restore and load bring to light; the object is spent afterwards. */
    static String of(GalleryGuards g) {
        return asked(g) + keptBy(g) + "load " + answerOf(() -> g.load(g.buffered())) + ' ' + asked(g);
    }

    /** The same, but for the input buffer and the latest error. */
    static String butInput(GalleryGuards g) {
        return asked(g, List.of("buffered", "parseError", "errorPosition")) + keptBy(g);
    }

    private static String keptBy(GalleryGuards g) {
        StringBuilder told = new StringBuilder();
        for (int i = 0; i < 10; i++) {
            told.append("undo ").append(answerOf(() -> g.undo())).append(' ').append(Probe.stateOf(g)).append('\n');
        }
        for (int slot = 1; slot >= 0; slot--) {
            int number = slot;
            told.append("restore ").append(answerOf(() -> g.restore(number))).append(' ').append(askedOfState(g));
        }
        return told.toString();
    }

    /** The first line in which two of these texts differ, from both; nothing if they are equal. */
    static String difference(String got, String want) {
        String[] gotLines = got.split("\n");
        String[] wantLines = want.split("\n");
        for (int i = 0; i < Math.max(gotLines.length, wantLines.length); i++) {
            String gotLine = i < gotLines.length ? gotLines[i] : "";
            String wantLine = i < wantLines.length ? wantLines[i] : "";
            if (!gotLine.equals(wantLine)) {
                return gotLine + " / " + wantLine;
            }
        }
        return "";
    }

    private Everything() {
    }
}
