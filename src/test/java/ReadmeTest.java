import java.io.IOException;
import java.lang.reflect.Method;
import java.lang.reflect.Modifier;
import java.nio.file.DirectoryStream;
import java.nio.file.Files;
import java.nio.file.Path;

/** README.md says how the class is used and how its tests are run, and what it says is so. */
public final class ReadmeTest {
    public static void main(String[] args) throws IOException {
        Path root = Path.of(System.getProperty("house.root"));
        String readme = Files.readString(root.resolve("README.md"));
        exampleOfSelf(readme);
        exampleOfOwnText(readme);
        for (Method m : SelfHouse.class.getDeclaredMethods()) {
            if (Modifier.isPublic(m.getModifiers())) {
                Due.due("README.md names " + m.getName(), readme.matches("(?s).*\\b" + m.getName() + "[`(].*"), true);
            }
        }
        Due.due("README.md says how the tests are run", readme.contains("    sh .ci/run\n"), true);
        Due.due("what it says to run can be run", Files.isExecutable(root.resolve(".ci/run")), true);
        everyTestIsTold(readme, root.resolve("src/test/java"));
        Due.end();
    }

    private static void exampleOfSelf(String readme) {
        SelfHouse x = new SelfHouse();
        told(readme, "x.self(0);", " " + x.self(0) + " bytes");
        told(readme, "x.compile(0, 0);", " " + x.compile(0, 0) + " words");
        Due.due("begin(0, 0)", x.begin(0, 0), true);
        told(readme, "x.step(1000000);", " " + x.step(1000000) + " steps");
        Due.due("it has come to its end", x.state(0), 2);
        told(readme, "x.take(1);", " code 1");
        Due.due("take(1)", x.take(1), x.size(0));
        told(readme, "x.differ(0, 1);", x.differ(0, 1) == SelfHouse.NONE ? "NONE" : "no answer");
    }

    private static void exampleOfOwnText(String readme) {
        SelfHouse x = new SelfHouse();
        told(readme, "x.feed(0x64656620, 0x6d61696e, 0x2829207b, 0x20707574, 0x20363b20);", "\"def main() { put 6; \"");
        Due.due("feed", x.feed(0x64656620, 0x6d61696e, 0x2829207b, 0x20707574, 0x20363b20), 20);
        told(readme, "x.feed(0x7d000000, 0, 0, 0, 0);", "\"}\"");
        Due.due("feed", x.feed(0x7d000000, 0, 0, 0, 0), 40);
        told(readme, "x.keep(0, 21);", " " + x.keep(0, 21) + " bytes");
        told(readme, "x.compile(0, 0);", " " + x.compile(0, 0) + " words");
        Due.due("begin(0, NONE)", x.begin(0, SelfHouse.NONE), true);
        told(readme, "x.step(1000);", " " + x.step(1000) + " steps");
        Due.due("it has come to its end", x.state(0), 2);
        told(readme, "x.output(0);", " " + x.output(0));
    }

    /** The line of the example that has the call says so too. */
    private static void told(String readme, String call, String answer) {
        boolean found = false;
        for (String line : readme.split("\n")) {
            found |= line.startsWith(call) && line.contains(answer);
        }
        Due.due("README.md tells '" + answer + "' of " + call, found, true);
    }

    private static void everyTestIsTold(String readme, Path tests) throws IOException {
        try (DirectoryStream<Path> files = Files.newDirectoryStream(tests, "*.java")) {
            for (Path file : files) {
                String name = file.getFileName().toString().replace(".java", "");
                Due.due("README.md tells of " + name, readme.contains("`" + name + "`"), true);
            }
        }
    }
}
