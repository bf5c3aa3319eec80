import java.io.IOException;
import java.lang.management.ManagementFactory;
import java.lang.reflect.Constructor;
import java.lang.reflect.Field;
import java.lang.reflect.Method;
import java.lang.reflect.Modifier;
import java.nio.file.Files;
import java.nio.file.Path;
import java.util.ArrayList;
import java.util.Arrays;
import java.util.HashSet;
import java.util.List;
import java.util.Set;
import java.util.TreeSet;
import java.util.regex.Matcher;
import java.util.regex.Pattern;

/** The face as the document prints it, and how little room the calls take. */
public final class RulesTest {
    private static final String S = " throws IllegalStateException";
    private static final String SI = S + " IndexOutOfBoundsException";
    private static final String SIA = SI + " IllegalArgumentException";
    private static final String SA = S + " IllegalArgumentException";
    private static final String I = " throws IndexOutOfBoundsException";

    private static final String[] FACE = {
        "int append int int int int int", "int load int" + I + " IllegalArgumentException",
        "int parseError", "int errorPosition", "int buffered", "int vertices", "int vertexX int" + SI,
        "int vertexY int" + SI, "int doubleArea" + S, "int reflexVertices" + S, "int points", "int pointX int" + SI,
        "int pointY int" + SI, "int pointAt int int" + S, "long boundary" + S, "boolean sees int int" + SI,
        "long visible int" + SI, "long kernel" + S, "int linkDistance int int" + SI, "int diameter" + S,
        "int farthest int" + SI, "long seenFromEdge int" + SI, "int triangleVertex int int" + SIA,
        "int triangleArea int" + SI, "int colour int" + SI, "int colourGuards" + S, "int vertexGuards" + S,
        "int edgeGuards" + S, "int guardNumber" + S, "int guardPoint int" + SI, "int witnessNumber" + S,
        "int witness int" + SI, "int hiddenNumber" + S, "int guards", "int guardAt int" + SI,
        "int guardRange int" + SI, "long watched int" + SI, "long unwatched" + S, "int watchers int" + SI,
        "int redundantGuards" + S, "int bestPoint" + S, "int greedyGuards" + S, "int treasures",
        "int treasureAt int" + SI, "int watchedValue" + S, "int bestValue" + S, "int draw int" + SA,
        "int drawnByte int" + I, "int addGuard int int" + SIA, "int removeGuard int" + SI,
        "int moveGuard int int" + SI, "int setRange int int" + SIA, "int moveVertex int int int" + SIA,
        "int insertVertex int int int" + SIA, "int deleteVertex int" + SIA, "int undo" + S, "int undoable",
        "int save int" + SI, "int restore int" + I + " IllegalStateException",
    };

    private static String signature(Method m) {
        StringBuilder s = new StringBuilder(m.getReturnType() + " " + m.getName());
        for (Class<?> p : m.getParameterTypes()) {
            s.append(' ').append(p);
        }
        if (m.getExceptionTypes().length > 0) {
            s.append(" throws");
        }
        for (Class<?> e : m.getExceptionTypes()) {
            s.append(' ').append(e.getSimpleName());
        }
        return s.toString();
    }

    private static void face() {
        Set<String> open = new TreeSet<>();
        Set<String> names = new HashSet<>();
        for (Method m : GalleryGuards.class.getDeclaredMethods()) {
            if (!Modifier.isPrivate(m.getModifiers())) {
                Probe.due(m + " is public and no more", m.getModifiers(), Modifier.PUBLIC);
                open.add(signature(m));
                names.add(m.getName());
            }
        }
        Probe.due("the face", open, new TreeSet<>(Arrays.asList(FACE)));
        for (Method m : GalleryGuards.class.getDeclaredMethods()) {
            Probe.due(m + " has a name of its own",
                    Modifier.isPrivate(m.getModifiers()) && names.contains(m.getName()), false);
        }
        for (Class<?> inner : GalleryGuards.class.getDeclaredClasses()) {
            Probe.due(inner + " is static", Modifier.isStatic(inner.getModifiers()), true);
            for (Method m : inner.getDeclaredMethods()) {
                Probe.due(m + " has a name of its own", names.contains(m.getName()), false);
            }
        }
        for (Field f : GalleryGuards.class.getDeclaredFields()) {
            Probe.due(f + " is private", Modifier.isPrivate(f.getModifiers()), !f.getName().equals("NONE"));
        }
        Constructor<?>[] constructors = GalleryGuards.class.getDeclaredConstructors();
        Probe.due("constructors", constructors.length, 1);
        Probe.due("the constructor's parameters", constructors[0].getParameterCount(), 0);
        Probe.due("the constructor is public", constructors[0].getModifiers(), Modifier.PUBLIC);
        Probe.due("the class", GalleryGuards.class.getModifiers(), Modifier.PUBLIC | Modifier.FINAL);
        Probe.due("its package", GalleryGuards.class.getPackageName(), "");
    }

    private static final Pattern METHOD = Pattern.compile("public (\\w+) (\\w+)\\(([^)]*)\\)(?: throws ([\\w, ]+))?;");

    /** A line of the document's face in the words of signature; empty if it is no method's line. */
    private static String signature(String line) {
        Matcher m = METHOD.matcher(line.trim());
        if (!m.matches()) {
            return "";
        }
        String parameters = m.group(3).replaceAll("(\\w+) \\w+,? ?", " $1");
        String thrown = m.group(4) == null ? "" : " throws " + m.group(4).replace(",", "");
        return m.group(1) + " " + m.group(2) + parameters + thrown;
    }

    /** The face once more, as the document itself prints it: no line of its section is left out. */
    private static void printedFace() throws IOException, ReflectiveOperationException {
        Path document = Path.of(System.getProperty("document", "../shared/DOC.md"));
        if (!Files.isReadable(document)) {
            System.out.println("no document at " + document + ": the face is not compared with it");
            return;
        }
        List<String> lines = Files.readAllLines(document);
        int first = lines.indexOf("public final class GalleryGuards {");
        Set<String> printed = new TreeSet<>();
        List<String> others = new ArrayList<>();
        for (String line : lines.subList(first, lines.size())) {
            if (line.equals("}")) {
                break;
            }
            if (signature(line).isEmpty()) {
                others.add(line.trim());
            } else {
                printed.add(signature(line));
            }
        }
        Probe.due("the face that the document prints", printed, new TreeSet<>(Arrays.asList(FACE)));
        Probe.due("its other lines", others, List.of("public final class GalleryGuards {",
                "public static final int NONE = -1;", "public GalleryGuards();"));
        // by reflection, since javac copies a constant's value into the class that uses it
        Field none = GalleryGuards.class.getField("NONE");
        Probe.due("NONE", none.getInt(null), -1);
        Probe.due("its type", none.getType(), int.class);
        Probe.due("its modifiers", none.getModifiers(), Modifier.PUBLIC | Modifier.STATIC | Modifier.FINAL);
    }

    /** Every kind of call that answers, many times over. */
    private static long busy(GalleryGuards g, int rounds) {
        long sum = 0;
        for (int i = 0; i < rounds; i++) {
            sum += g.append(0, 0, 0, 0, 0) + g.parseError() + g.errorPosition() + g.buffered() + g.vertices();
            sum += g.vertexX(0) + g.vertexY(0) + g.doubleArea() + g.reflexVertices() + g.points() + g.pointX(1);
            sum += g.pointY(1) + g.pointAt(1, 1) + g.boundary() + g.visible(2) + g.kernel() + g.linkDistance(0, 9);
            sum += g.diameter() + g.farthest(0) + g.seenFromEdge(0) + g.triangleVertex(0, 0) + g.triangleArea(0);
            sum += g.colour(0) + g.colourGuards() + g.vertexGuards() + g.edgeGuards() + g.guardNumber();
            sum += g.guardPoint(0) + g.witnessNumber() + g.witness(0) + g.hiddenNumber() + g.guards();
            sum += g.addGuard(0, 50) + g.guardAt(0) + g.guardRange(0) + g.watched(0) + g.unwatched() + g.watchers(0);
            sum += g.redundantGuards() + g.bestPoint() + g.greedyGuards() + g.treasures() + g.treasureAt(0);
            sum += g.watchedValue() + g.bestValue() + g.draw(0) + g.drawnByte(0) + g.moveGuard(0, 3);
            sum += g.setRange(0, 5) + g.removeGuard(0) + g.moveVertex(0, 0, 0) + g.undoable();
            sum += g.undo() + g.deleteVertex(3) + g.insertVertex(2, 12, 1) + g.save(0) + g.restore(0);
            sum += g.sees(0, 1) ? 1 : 0;
        }
        return sum;
    }

    /** All calls of a run live in one room, so that a call may make no objects, and the constructor only some. */
    private static void room() {
        com.sun.management.ThreadMXBean bean = (com.sun.management.ThreadMXBean) ManagementFactory.getThreadMXBean();
        String text = Probe.COMB + ";treasure 0 0 5";
        busy(Probe.loaded(text), 3);
        long before = bean.getCurrentThreadAllocatedBytes();
        GalleryGuards g = new GalleryGuards();
        long made = bean.getCurrentThreadAllocatedBytes() - before;
        Probe.due("a new object takes " + made + " bytes: few", made < 40_000, true);
        Probe.append(g, text);
        g.load(text.length());
        before = bean.getCurrentThreadAllocatedBytes();
        long sum = busy(g, 20);
        long taken = bean.getCurrentThreadAllocatedBytes() - before;
        Probe.due("the calls take " + taken + " bytes: few (" + sum + ")", taken < 5_000, true);
    }

    /** No arguments in any state may bring out an exception that the document does not name. */
    private static void wildArguments() throws ReflectiveOperationException {
        List<GalleryGuards> states = new ArrayList<>();
        states.add(new GalleryGuards());
        states.add(Probe.loaded(Probe.SQUARE));
        states.add(Probe.loaded(Probe.COMB + ";guard 0 0;treasure 0 0 5"));
        states.add(Probe.loaded("polygon 0 0 7 0 7 7 0 7" + ";guard 7 7".repeat(6) + ";treasure 7 7 1".repeat(6)));
        int[] wild = {0, 1, -1, 5, 6, 11, 12, 15, 16, 63, 64, 99, 600, Integer.MIN_VALUE, Integer.MAX_VALUE};
        for (GalleryGuards g : states) {
            for (Method m : GalleryGuards.class.getDeclaredMethods()) {
                if (Modifier.isPublic(m.getModifiers())) {
                    for (int round = 0; round < wild.length * wild.length; round++) {
                        callWildly(g, m, wild, round);
                    }
                }
            }
        }
    }

    private static void callWildly(GalleryGuards g, Method m, int[] wild, int round) throws ReflectiveOperationException {
        Object[] args = new Object[m.getParameterCount()];
        int left = round;
        for (int i = 0; i < args.length; i++) {
            args[i] = wild[left % wild.length];
            left = left / wild.length + round * (i + 1) % 3;
        }
        try {
            m.invoke(g, args);
        } catch (java.lang.reflect.InvocationTargetException e) {
            Class<?> kind = e.getCause().getClass();
            boolean named = Arrays.asList(m.getExceptionTypes()).contains(kind);
            Probe.due(m.getName() + Arrays.toString(args) + " throws " + kind + " as its face says", named, true);
        }
    }

    /** An answer does not depend on what was asked before. */
    private static void freshAnswers() throws ReflectiveOperationException {
        String text = Probe.COMB + ";guard 1 4 range 3;guard 9 1;treasure 0 0 5;treasure 13 4 7";
        GalleryGuards asked = Probe.loaded(text);
        for (int round = 0; round < 2; round++) {
            for (Method m : GalleryGuards.class.getDeclaredMethods()) {
                String name = m.getName();
                boolean changes = name.matches("append|load|undo|restore|(add|remove|move|set|insert|delete)[A-Z].*");
                if (!Modifier.isPublic(m.getModifiers()) || changes || name.equals("drawnByte")) {
                    continue;
                }
                Object[] args = new Object[m.getParameterCount()];
                Arrays.fill(args, 1);
                Object first = m.invoke(asked, args);
                Probe.due(name + " on a fresh object", m.invoke(Probe.loaded(text), args), first);
            }
        }
    }

    public static void main(String[] args) throws IOException, ReflectiveOperationException {
        face();
        printedFace();
        room();
        freshAnswers();
        wildArguments();
        Probe.end("RulesTest");
    }
}
