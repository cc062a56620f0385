import java.io.IOException;
import java.nio.file.DirectoryStream;
import java.nio.file.Files;
import java.nio.file.Path;
import java.util.ArrayList;
import java.util.BitSet;
import java.util.List;
import java.util.regex.Matcher;
import java.util.regex.Pattern;

/** No sentence of the document's Terms and promises is without a test that says it. */
public final class SentencesTest {
    private static final String LITERAL = "\"(?:[^\"\\\\]|\\\\.)*\"";
    private static final Pattern SAID = Pattern.compile("says\\(\\s*(" + LITERAL + "(?:\\s*\\+\\s*" + LITERAL + ")*)\\s*\\)");

    public static void main(String[] args) throws IOException {
        String document = Document.sentences();
        BitSet said = new BitSet();
        for (String sentence : sentencesOfTests()) {
            int at = document.indexOf(sentence);
            Due.due("the document says: " + sentence, at >= 0, true);
            for (; at >= 0; at = document.indexOf(sentence, at + 1)) {
                said.set(at, at + sentence.length());
            }
        }
        for (int[] part : partsToBeSaid(document)) {
            unsaid(document, said, part[0], part[1]);
        }
        Due.end();
    }

    private static List<String> sentencesOfTests() throws IOException {
        List<String> all = new ArrayList<>();
        Path tests = Path.of(System.getProperty("house.root"), "src/test/java");
        try (DirectoryStream<Path> files = Files.newDirectoryStream(tests, "*Test.java")) {
            for (Path file : files) {
                Matcher found = SAID.matcher(Files.readString(file));
                while (found.find()) {
                    all.add(Document.oneLine(bare(found.group(1))));
                }
            }
        }
        return all;
    }

    private static String bare(String literals) {
        StringBuilder all = new StringBuilder();
        Matcher found = Pattern.compile(LITERAL).matcher(literals);
        while (found.find()) {
            String literal = found.group();
            all.append(literal, 1, literal.length() - 1);
        }
        return all.toString();
    }

    /** From Part I on to SELF's lines, and each promise; their headings need not be said. */
    private static List<int[]> partsToBeSaid(String document) {
        List<int[]> all = new ArrayList<>();
        int terms = document.indexOf("==== Part I. ");
        int end = document.indexOf("## Not promised");
        Due.due("the document has its Terms and its end", terms >= 0 && end > terms, true);
        Matcher heading = Pattern.compile("==== Part [IV]+\\. (?:TEXTS|THE LANGUAGE|CODE|THE MACHINE)\\. (?:TOKENS: )?"
            + "|==== Part V\\. |## Promise \\d+: (?:A new object|[a-z]+) ").matcher(document);
        int from = -1;
        while (heading.find()) {
            if (from >= 0) {
                all.add(new int[] {from, heading.start()});
            }
            from = heading.end();
        }
        all.add(new int[] {from, end});
        Due.due("parts and promises", all.size(), 5 + 19);
        return all;
    }

    private static void unsaid(String document, BitSet said, int from, int to) {
        int start = -1;
        for (int i = from; i <= to; i++) {
            boolean open = i < to && !said.get(i);
            if (open && start < 0) {
                start = i;
            } else if (!open && start >= 0) {
                Due.due("sentences that no test says", document.substring(start, i).trim(), "");
                start = -1;
            }
        }
        Due.due("the part is not empty", to > from, true);
    }
}
