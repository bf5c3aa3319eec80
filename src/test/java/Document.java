import java.io.IOException;
import java.nio.file.Files;
import java.nio.file.Path;
import java.util.ArrayList;
import java.util.LinkedHashMap;
import java.util.List;
import java.util.Map;

/** The document's sections and promises, and which of their words the tests of the sentences have quoted. */
final class Document {
    private final Map<String, String> texts = new LinkedHashMap<>();
    private final Map<String, boolean[]> quoted = new LinkedHashMap<>();

    /** Without the file the sentences are still tested, only their words are not compared. */
    Document(Path file) throws IOException {
        if (!Files.isReadable(file)) {
            System.out.println("no document at " + file + ": the quotes are not compared with it");
            return;
        }
        String part = "";
        boolean described = false;
        for (String line : Files.readAllLines(file)) {
            if (line.startsWith("## ")) {
                described = line.equals("## Description");
                part = line.equals("## What it is") ? "What it is" : "";
                part = line.startsWith("## Promise ") ? line.substring(3, line.indexOf(':')) : part;
            } else if (described && line.matches("[1-6]\\. .*")) {
                part = "Section " + line.charAt(0);
            } else if (line.equals("The constants:") || line.startsWith("The constructor and the methods follow")) {
                part = line.equals("The constants:") ? "Constants" : "";
            } else if (!part.isEmpty() && !line.startsWith("`") && !line.startsWith("----")) {
                texts.merge(part, line.trim(), (before, next) -> (before + " " + next).trim());
            }
        }
        texts.forEach((name, text) -> quoted.put(name, new boolean[text.length()]));
    }

    /** Whether the part says the quote; if so, each place where it does counts as quoted. */
    boolean quote(String part, String quote) {
        if (texts.isEmpty()) {
            return true;
        }
        String text = texts.getOrDefault(part, "");
        boolean found = false;
        for (int at = text.indexOf(quote); at >= 0; at = text.indexOf(quote, at + 1)) {
            found = true;
            for (int i = at; i < at + quote.length(); i++) {
                quoted.get(part)[i] = true;
            }
        }
        return found;
    }

    /** The words that no test has quoted. */
    List<String> unquoted() {
        List<String> left = new ArrayList<>();
        texts.forEach((part, text) -> {
            StringBuilder words = new StringBuilder();
            for (int i = 0; i <= text.length(); i++) {
                if (i < text.length() && !quoted.get(part)[i]) {
                    words.append(text.charAt(i));
                } else {
                    if (words.toString().matches(".*[a-zA-Z0-9].*")) {
                        left.add(part + ": " + words.toString().trim());
                    }
                    words.setLength(0);
                }
            }
        });
        return left;
    }
}
