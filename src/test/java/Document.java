import java.io.IOException;
import java.nio.file.Files;
import java.nio.file.Path;
import java.util.ArrayList;
import java.util.List;
import java.util.regex.Pattern;

/** The document's sections, and which of their lines the boundary tests have quoted. */
final class Document {
    /** A line of a promise that names a boundary: a range, a condition, or what is thrown. */
    private static final Pattern BOUNDARY = Pattern.compile("^Throws |[0-9] to [0-9]|\\bfrom 0\\b| if ");

    private final List<String> lines;
    private final boolean[] quoted;

    Document(Path file) {
        lines = readLines(file);
        quoted = new boolean[lines.size()];
    }

    private static List<String> readLines(Path file) {
        try {
            return Files.readAllLines(file);
        } catch (IOException unread) {
            System.out.println("There is no document at " + file + ": its sentences are not looked up.");
            return List.of();
        }
    }

    /** Tells whether a sentence stands in the section with this heading, and notes where; true without a document. */
    boolean has(String section, String sentence) {
        boolean within = false;
        boolean found = lines.isEmpty();
        for (int k = 0; k < lines.size(); k++) {
            String line = lines.get(k);
            if (line.startsWith("## ")) {
                within = line.equals("## " + section) || line.startsWith("## " + section + ": ");
            }
            if (within && line.contains(sentence)) {
                quoted[k] = true;
                found = true;
            }
        }
        return found;
    }

    /** The lines of promises that name a boundary and that has() was never asked for. */
    List<String> unquoted() {
        List<String> rest = new ArrayList<>();
        String section = "";
        for (int k = 0; k < lines.size(); k++) {
            String line = lines.get(k);
            if (line.startsWith("## ")) {
                section = line.substring(3);
            }
            if (section.startsWith("Promise ") && !quoted[k] && BOUNDARY.matcher(line).find()) {
                rest.add(section + ": " + line);
            }
        }
        return rest;
    }
}
