import java.io.IOException;
import java.lang.reflect.InvocationTargetException;
import java.lang.reflect.Method;
import java.lang.reflect.Modifier;
import java.nio.file.Files;
import java.nio.file.Path;
import java.util.ArrayList;
import java.util.List;
import java.util.Set;
import java.util.TreeSet;
import java.util.regex.Matcher;
import java.util.regex.Pattern;
import java.util.stream.Collectors;
import java.util.stream.Stream;

/** What README.md says is so: its example answers as it is written there, and what it names is there. */
public final class ReadmeTest {
    private static final Path ROOT = Path.of(System.getProperty("root", "."));
    private static final Pattern CALL = Pattern.compile("g\\.(\\w+)\\(([^)]*)\\);\\s*// (throws \\w+|-?\\d+)(:.*)?");

    /** The lines of the example: those between the marks of a block of Java. */
    private static List<String> example(List<String> readme) {
        int first = readme.indexOf("```java") + 1;
        List<String> rest = readme.subList(first, readme.size());
        return first == 0 ? List.of() : rest.subList(0, Math.max(0, rest.indexOf("```")));
    }

    private static Method named(String name) {
        for (Method m : GalleryGuards.class.getMethods()) {
            if (m.getName().equals(name)) {
                return m;
            }
        }
        throw new IllegalArgumentException("no method " + name);
    }

    private static String answer(GalleryGuards g, String name, String arguments) throws IllegalAccessException {
        List<Object> values = new ArrayList<>();
        for (String argument : arguments.split(",")) {
            if (!argument.isBlank()) {
                values.add(Integer.decode(argument.trim()));
            }
        }
        try {
            return String.valueOf(named(name).invoke(g, values.toArray()));
        } catch (InvocationTargetException e) {
            return "throws " + e.getCause().getClass().getSimpleName();
        }
    }

    /** Every line but the one that makes the object is a remark or a call with its answer behind it. */
    private static void runExample(List<String> lines) throws IllegalAccessException {
        Probe.due("the example's first line", lines.get(0), "GalleryGuards g = new GalleryGuards();");
        GalleryGuards g = new GalleryGuards();
        for (String line : lines.subList(1, lines.size())) {
            Matcher call = CALL.matcher(line);
            if (call.matches()) {
                Probe.due("README.md: " + line, answer(g, call.group(1), call.group(2)), call.group(3));
            } else {
                Probe.due("README.md: " + line + " is a remark", line.startsWith("//"), true);
            }
        }
    }

    private static Set<String> found(String text, String pattern) {
        return Pattern.compile(pattern).matcher(text).results().map(r -> r.group(1))
                .collect(Collectors.toCollection(TreeSet::new));
    }

    private static Set<String> filesEndingIn(String end) throws IOException {
        try (Stream<Path> files = Files.list(ROOT.resolve("src/test/java"))) {
            return files.map(f -> f.getFileName().toString()).filter(n -> n.endsWith(end + ".java"))
                    .map(n -> n.substring(0, n.length() - ".java".length()))
                    .collect(Collectors.toCollection(TreeSet::new));
        }
    }

    /** The names in the given column of the tables whose other column has words. */
    private static Set<String> column(String text, String pattern) {
        Set<String> names = new TreeSet<>();
        for (String cell : found(text, pattern)) {
            names.addAll(found(cell, "`(\\w+)`"));
        }
        return names;
    }

    private static void names(String text) throws IOException {
        Set<String> inside = new TreeSet<>();
        for (Class<?> c : GalleryGuards.class.getDeclaredClasses()) {
            inside.add(c.getSimpleName());
        }
        Set<String> face = new TreeSet<>();
        for (Method m : GalleryGuards.class.getDeclaredMethods()) {
            if (Modifier.isPublic(m.getModifiers())) {
                face.add(m.getName());
            }
        }
        Probe.due("the classes that README.md tells of", column(text, "(?m)^\\| (`[^|]*) \\| [^|`]* \\|$"), inside);
        Probe.due("the calls that it tells of", column(text, "(?m)^\\| [^|`]* \\| (`[^|]*) \\|$"), face);
        Probe.due("the tests that it tells of", found(text, "`(\\w+Test)`"), filesEndingIn("Test"));
        Set<String> sentences = filesEndingIn("Sentences");
        sentences.remove("Sentences");
        Probe.due("the tests of sentences that it tells of", found(text, "`(\\w+Sentences)`"), sentences);
        for (String file : found(text, "`((?:src|\\.ci)/[\\w/.]+)`")) {
            Probe.due(file + " is there", Files.exists(ROOT.resolve(file)), true);
        }
        Probe.due("README.md says how to run the tests", text.contains("\n    .ci/run\n"), true);
        Probe.due("this can be run", Files.isExecutable(ROOT.resolve(".ci/run")), true);
    }

    public static void main(String[] args) throws IOException, IllegalAccessException {
        Path file = ROOT.resolve("README.md");
        List<String> example = example(Files.readAllLines(file));
        Probe.due("README.md has an example", example.size() > 1, true);
        if (example.size() > 1) {
            runExample(example);
        }
        names(Files.readString(file));
        Probe.end("ReadmeTest");
    }
}
