import java.io.IOException;
import java.io.UncheckedIOException;
import java.nio.file.Files;
import java.nio.file.Path;
import java.util.List;

/** The document, as the tests need it: its sentences without line breaks, and SELF. */
final class Document {
    private Document() {
    }

    private static List<String> lines() {
        try {
            return Files.readAllLines(Path.of(System.getProperty("house.shared"), "DOC.md"));
        } catch (IOException failed) {
            throw new UncheckedIOException(failed);
        }
    }

    static String oneLine(String text) {
        return text.replaceAll("\\s+", " ").trim();
    }

    static String sentences() {
        StringBuilder all = new StringBuilder();
        for (String line : lines()) {
            if (!line.startsWith("| ") && !line.startsWith("```")) {
                all.append(line).append(' ');
            }
        }
        return oneLine(all.toString());
    }

    static String self() {
        StringBuilder all = new StringBuilder();
        for (String line : lines()) {
            if (line.startsWith("| ")) {
                all.append(all.length() == 0 ? "" : "\n").append(line.substring(2));
            }
        }
        return all.toString();
    }
}
