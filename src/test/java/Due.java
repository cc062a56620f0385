import java.nio.charset.StandardCharsets;

/** What the tests share: answers that are due, and ways to bring texts and codes into a house. */
final class Due {
    private static int wrong = 0;
    private static int asked = 0;
    private static String sentence = "";
    private static int askedAhead = 0;

    private Due() {
    }

    /** What the document says, word for word: the answers that are asked from here on are due by it. */
    static void says(String said) {
        leaveSentence();
        sentence = said;
        askedAhead = asked;
        if (!Document.sentences().contains(Document.oneLine(said))) {
            tellWrong("the document does not say so");
        }
    }

    private static void leaveSentence() {
        if (!sentence.isEmpty() && asked == askedAhead) {
            tellWrong("nothing was asked by it");
        }
    }

    private static void tellWrong(String what) {
        wrong++;
        if (wrong <= 50) {
            System.out.println((sentence.isEmpty() ? "" : "[" + sentence + "] ") + what);
        }
    }

    static void due(String call, long got, long want) {
        asked++;
        if (got != want) {
            tellWrong(call + " answered " + got + ", due is " + want);
        }
    }

    static void due(String call, boolean got, boolean want) {
        due(call, got ? 1 : 0, want ? 1 : 0);
    }

    static void due(String call, String got, String want) {
        asked++;
        if (!got.equals(want)) {
            tellWrong(call + " answered " + got + ", due is " + want);
        }
    }

    /** Ends the test: with exit code 1 if an answer was not the one that is due. */
    static void end() {
        leaveSentence();
        System.out.println(asked + " answers asked for, " + wrong + " not as due");
        if (wrong != 0 || asked == 0) {
            System.exit(1);
        }
    }

    static byte[] bytes(String text) {
        return text.getBytes(StandardCharsets.ISO_8859_1);
    }

    /** Text s becomes these bytes, by feed and keep. */
    static void put(SelfHouse x, int s, String text) {
        byte[] all = bytes(text);
        byte[] padded = new byte[(all.length + 19) / 20 * 20];
        System.arraycopy(all, 0, padded, 0, all.length);
        for (int i = 0; i < padded.length; i += 20) {
            x.feed(number(padded, i), number(padded, i + 4), number(padded, i + 8),
                number(padded, i + 12), number(padded, i + 16));
        }
        due("keep(" + s + ", " + all.length + ")", x.keep(s, all.length), all.length);
    }

    private static int number(byte[] b, int i) {
        return (b[i] & 255) << 24 | (b[i + 1] & 255) << 16 | (b[i + 2] & 255) << 8 | b[i + 3] & 255;
    }

    /** Compiles the text in a new house, as text 0 to code 0. */
    static SelfHouse house(String text) {
        SelfHouse x = new SelfHouse();
        put(x, 0, text);
        x.compile(0, 0);
        return x;
    }

    /** The same with the machine begun, the input being the other text. */
    static SelfHouse begun(String text, String input) {
        SelfHouse x = house(text);
        due("fault(0) of " + text, x.fault(0), 0);
        put(x, 1, input);
        due("begin(0, 1) of " + text, x.begin(0, 1), true);
        return x;
    }

    /** The words of a code, with blanks between them. */
    static String words(SelfHouse x, int d) {
        StringBuilder all = new StringBuilder();
        for (int i = 0; i < x.size(d); i++) {
            all.append(i == 0 ? "" : " ").append(x.word(d, i));
        }
        return all.toString();
    }

    static String outputs(SelfHouse x) {
        StringBuilder all = new StringBuilder();
        for (int i = 0; i < x.state(5); i++) {
            all.append(i == 0 ? "" : " ").append(x.output(i));
        }
        return all.toString();
    }

    /** Code d becomes these words: a program makes them of its input's bytes. It uses texts 2 and 3. */
    static void lay(SelfHouse x, int d, int... words) {
        put(x, 3, "def main() { let a = get; while a >= 0 { put ((a*256+get)*256+get)*256+get; a = get; } }");
        StringBuilder all = new StringBuilder();
        for (int w : words) {
            for (int shift = 24; shift >= 0; shift -= 8) {
                all.append((char) (w >>> shift & 255));
            }
        }
        put(x, 2, all.toString());
        x.compile(3, d);
        x.begin(d, 2);
        x.step(1000000);
        due("take(" + d + ")", x.take(d), words.length);
    }

    /** A house with code 0 of one proc, main, at the beginning of these words of code. */
    static SelfHouse coded(int room, int parameters, int owns, int... words) {
        int[] all = new int[8 + words.length];
        int[] head = {7919, all.length, room, 1, 0, 0, parameters, owns};
        System.arraycopy(head, 0, all, 0, 8);
        System.arraycopy(words, 0, all, 8, words.length);
        SelfHouse x = new SelfHouse();
        lay(x, 0, all);
        return x;
    }

    /** What the class makes of the text, and what SELF makes of it when the machine runs it, are the same. */
    static void agree(String text) {
        SelfHouse x = new SelfHouse();
        x.self(0);
        x.compile(0, 0);
        put(x, 1, text);
        int size = x.compile(1, 1);
        x.begin(0, 1);
        for (int i = 0; i < 20 && x.state(0) == 1; i++) {
            x.step(1000000);
        }
        String shown = text.length() > 300 ? text.substring(0, 300) + ".." : text;
        due("SELF's outcome on " + shown, x.state(0), 2);
        if (x.fault(0) == 0) {
            due("take(2), SELF's code of " + shown, x.take(2), size);
            due("differ(1, 2), both codes of " + shown, x.differ(1, 2), -1);
        } else {
            due("compile of " + shown, size, -1);
            due("SELF's answer on " + shown, outputs(x), -x.fault(0) + " " + x.fault(1));
        }
    }

    static String repeat(String part, int times) {
        return part.repeat(Math.max(0, times));
    }

    /** The n-th of many names that are no keys. */
    static String name(String head, int n) {
        return head + (char) ('a' + n / 26 % 26) + (char) ('a' + n % 26);
    }
}
