/** Part I and promises 1 to 5 at their edges: the TAPE, the TEXTS, how much a CODE can have. */
public final class EdgesOfTextsTest {
    private static final int MIN = Integer.MIN_VALUE;
    private static final int MAX = Integer.MAX_VALUE;

    public static void main(String[] args) {
        theTapeAtItsMost();
        whatTakesTheTapeUsesItUp();
        textsFrom0To3();
        codesFrom0To5();
        aCodeAtItsMost();
        aNewObject();
        feedPutsTwentyBytes();
        feedRefuses();
        keepTakesTheFirstBytes();
        keepRefuses();
        selfBecomesAText();
        bytesOfAText();
        theCallsOfAnObject();
        theConstant();
        Due.end();
    }

    /** A house whose TAPE has so many bytes, 20 a feed, the n-th feed being of n's. */
    private static SelfHouse fed(int bytes) {
        SelfHouse x = new SelfHouse();
        for (int n = 1; n * 20 <= bytes; n++) {
            x.feed(n, n, n, n, n);
        }
        return x;
    }

    private static void theTapeAtItsMost() {
        Due.says("The TAPE has bytes, at most 8000;");
        SelfHouse x = fed(7980);
        Due.due("state(7)", x.state(7), 7980);
        Due.due("feed, to 8000", x.feed(-1, -1, -1, -1, -2), 8000);
        Due.due("state(7)", x.state(7), 8000);
        Due.due("feed, to 8020", x.feed(7, 7, 7, 7, 7), -1);
        Due.due("feed, once more", x.feed(7, 7, 7, 7, 7), -1);
        Due.due("state(7)", x.state(7), 8000);
        Due.due("keep(0, 8000)", x.keep(0, 8000), 8000);
        Due.due("text(0, 7979)", x.text(0, 7979), 399 & 255);
        Due.due("text(0, 7980)", x.text(0, 7980), 255);
        Due.due("text(0, 7999)", x.text(0, 7999), 254);
        Due.due("text(0, 8000)", x.text(0, 8000), -1);
    }

    private static void whatTakesTheTapeUsesItUp() {
        Due.says("what takes it uses it up.");
        for (int n : new int[] {0, 1, 19, 20, 39, 40}) {
            SelfHouse x = fed(40);
            Due.due("keep(0, " + n + ")", x.keep(0, n), n);
            Due.due("state(7) behind keep(0, " + n + ")", x.state(7), 0);
            Due.due("keep(1, 1)", x.keep(1, 1), -1);
            Due.due("feed", x.feed(9, 9, 9, 9, 9), 20);
            x.keep(1, 20);
            Due.due("text(1, 3)", x.text(1, 3), 9);
        }
    }

    private static void textsFrom0To3() {
        Due.says("TEXTS 0 .. 3 are rows of bytes, empty at first;");
        SelfHouse x = new SelfHouse();
        for (int s = 0; s <= 3; s++) {
            Due.due("text(" + s + ", 0) at first", x.text(s, 0), -1);
        }
        for (int s = 0; s <= 3; s++) {
            x.feed(s + 1 << 24, 0, 0, 0, 0);
            Due.due("keep(" + s + ", 1)", x.keep(s, 1), 1);
        }
        for (int s = 0; s <= 3; s++) {
            Due.due("text(" + s + ", 0)", x.text(s, 0), s + 1);
            Due.due("text(" + s + ", 1)", x.text(s, 1), -1);
        }
        for (int s : new int[] {-1, 4, MIN, MAX}) {
            x.feed(1, 1, 1, 1, 1);
            Due.due("keep(" + s + ", 1)", x.keep(s, 1), -1);
            Due.due("self(" + s + ")", x.self(s), -1);
            Due.due("text(" + s + ", 0)", x.text(s, 0), -1);
            Due.due("compile(" + s + ", 0)", x.compile(s, 0), -1);
            Due.due("fault(0)", x.fault(0), -1);
        }
    }

    private static void codesFrom0To5() {
        Due.says("CODES 0 .. 5 are rows of words (ints),");
        SelfHouse x = new SelfHouse();
        Due.put(x, 0, "def main() { }");
        for (int d = 0; d <= 5; d++) {
            Due.due("size(" + d + ") at first", x.size(d), 0);
            Due.due("compile(0, " + d + ")", x.compile(0, d), 11);
            Due.due("poke(" + d + ", 10, MIN + d)", x.poke(d, 10, MIN + d), true);
            Due.due("poke(" + d + ", 9, MAX - d)", x.poke(d, 9, MAX - d), true);
        }
        for (int d = 0; d <= 5; d++) {
            Due.due("size(" + d + ")", x.size(d), 11);
            Due.due("word(" + d + ", 10)", x.word(d, 10), MIN + d);
            Due.due("word(" + d + ", 9)", x.word(d, 9), MAX - d);
            Due.due("begin(" + d + ", -1)", x.begin(d, -1), true);
            Due.due("take(" + d + ")", x.take(d), 0);
        }
        for (int d : new int[] {-1, 6, MIN, MAX}) {
            Due.due("compile(0, " + d + ")", x.compile(0, d), -1);
            Due.due("size(" + d + ")", x.size(d), -1);
            Due.due("word(" + d + ", 0)", x.word(d, 0), 0);
            Due.due("poke(" + d + ", 0, 1)", x.poke(d, 0, 1), false);
            Due.due("differ(" + d + ", 0)", x.differ(d, 0), -2);
            Due.due("differ(0, " + d + ")", x.differ(0, d), -2);
            Due.due("begin(" + d + ", -1)", x.begin(d, -1), false);
            Due.due("take(" + d + ")", x.take(d), -1);
        }
    }

    /** A program puts out a code of 8000 words, which is run in its turn. */
    private static void aCodeAtItsMost() {
        Due.says("CODES 0 .. 5 are rows of words (ints), at most 8000, empty at first.");
        SelfHouse x = new SelfHouse();
        Due.due("size(5) at first", x.size(5), 0);
        Due.put(x, 0, "var i; def main() { put 7919; put 8000; put 0; put 1; put 0; put 7991; put 0; put 0;"
            + " while i < 7991 { put i; i = i + 1; } put 26; put 27; }");
        x.compile(0, 0);
        x.begin(0, -1);
        x.step(1000000);
        Due.due("state(0), at the 8001st word", x.state(0), 8);
        Due.due("take(5)", x.take(5), 8000);
        Due.due("size(5)", x.size(5), 8000);
        Due.due("word(5, 7998)", x.word(5, 7998), 7990);
        Due.due("word(5, 7999)", x.word(5, 7999), 26);
        Due.due("word(5, 8000)", x.word(5, 8000), 0);
        Due.due("poke(5, 8000, 1)", x.poke(5, 8000, 1), false);
        Due.due("poke(5, 7999, 26)", x.poke(5, 7999, 26), true);
        Due.due("begin(5, -1)", x.begin(5, -1), true);
        Due.due("state(1)", x.state(1), 7991);
        Due.due("step(5)", x.step(5), 1);
        Due.due("state(0)", x.state(0), 2);
        Due.due("state(1)", x.state(1), 7992);
    }

    private static void aNewObject() {
        Due.says("`SelfHouse()`: An empty TAPE, empty TEXTS and CODES; the machine has not begun.");
        SelfHouse x = new SelfHouse();
        Due.due("state(7)", x.state(7), 0);
        Due.due("keep(0, 1)", x.keep(0, 1), -1);
        for (int what = 0; what <= 6; what++) {
            Due.due("state(" + what + ")", x.state(what), 0);
        }
        Due.due("step(0)", x.step(0), -1);
        Due.due("take(0)", x.take(0), -1);
        Due.due("all that can be seen", Seen.all(x), Seen.all(new SelfHouse()));
        for (int s = 0; s < 4; s++) {
            for (int i : new int[] {0, 1, 7999}) {
                Due.due("text(" + s + ", " + i + ")", x.text(s, i), -1);
            }
        }
        for (int d = 0; d < 6; d++) {
            Due.due("size(" + d + ")", x.size(d), 0);
        }
    }

    private static void feedPutsTwentyBytes() {
        Due.says("`int feed(int a, int b, int c, int d, int e)`: Twenty bytes come behind the TAPE, of each number "
            + "the highest first: how many it has.");
        SelfHouse x = new SelfHouse();
        Due.due("feed", x.feed(0x00010203, 0x04050607, 0x08090a0b, 0x0c0d0e0f, 0x10111213), 20);
        Due.due("feed", x.feed(MIN, MAX, -1, 0x7f80ff00, 0xfffefdfc), 40);
        x.keep(0, 40);
        int[] latter = {128, 0, 0, 0, 127, 255, 255, 255, 255, 255, 255, 255, 127, 128, 255, 0, 255, 254, 253, 252};
        for (int i = 0; i < 20; i++) {
            Due.due("text(0, " + i + ")", x.text(0, i), i);
            Due.due("text(0, " + (20 + i) + ")", x.text(0, 20 + i), latter[i]);
        }
        Due.due("text(0, 40)", x.text(0, 40), -1);
    }

    private static void feedRefuses() {
        Due.says("NONE when there would be more than 8000.");
        SelfHouse x = fed(8000);
        String before = Seen.all(x);
        Due.due("feed at 8000", x.feed(1, 1, 1, 1, 1), -1);
        Due.due("all that can be seen", Seen.all(x), before);
        Due.due("keep(3, 8000)", x.keep(3, 8000), 8000);
        SelfHouse twin = fed(8000);
        twin.keep(3, 8000);
        Due.due("all that can be seen behind keep", Seen.all(x), Seen.all(twin));
    }

    private static void keepTakesTheFirstBytes() {
        Due.says("`int keep(int s, int n)`: The TAPE's first n bytes become TEXT s (the TAPE is empty then): n.");
        for (int n = 0; n <= 20; n++) {
            SelfHouse x = new SelfHouse();
            x.self(2);
            x.feed(0x00010203, 0x04050607, 0x08090a0b, 0x0c0d0e0f, 0x10111213);
            Due.due("keep(2, " + n + ")", x.keep(2, n), n);
            Due.due("text(2, " + (n - 1) + ")", x.text(2, n - 1), n - 1);
            Due.due("text(2, " + n + ")", x.text(2, n), -1);
            Due.due("text(2, 7109)", x.text(2, 7109), -1);
            Due.due("state(7)", x.state(7), 0);
        }
    }

    private static void keepRefuses() {
        Due.says("NONE when there is no such TEXT, or the TAPE has not so many, or n is below 0.");
        int[][] refused = {{-1, 0}, {4, 0}, {-1, 40}, {4, 40}, {MIN, 1}, {MAX, 1}, {0, 41}, {3, 41}, {0, MAX}, {0, -1},
            {3, -1}, {0, MIN}};
        for (int[] r : refused) {
            SelfHouse x = fed(40);
            String before = Seen.all(x);
            Due.due("keep(" + r[0] + ", " + r[1] + ")", x.keep(r[0], r[1]), -1);
            Due.due("all that can be seen", Seen.all(x), before);
            Due.due("keep(3, 40)", x.keep(3, 40), 40);
            Due.due("text(3, 39)", x.text(3, 39), 2);
        }
        SelfHouse x = new SelfHouse();
        Due.due("keep(0, 1) of an empty TAPE", x.keep(0, 1), -1);
        Due.due("keep(0, 0) of an empty TAPE", x.keep(0, 0), 0);
    }

    private static void selfBecomesAText() {
        Due.says("`int self(int s)`: TEXT s becomes SELF: how many bytes. NONE when there is no such TEXT.");
        byte[] want = Due.bytes(Document.self());
        for (int s = 0; s <= 3; s++) {
            SelfHouse x = fed(8000);
            x.keep(s, 8000);
            Due.due("self(" + s + ")", x.self(s), want.length);
            Due.due("text(" + s + ", 0)", x.text(s, 0), want[0]);
            Due.due("the last byte", x.text(s, want.length - 1), want[want.length - 1]);
            Due.due("the byte behind it", x.text(s, want.length), -1);
        }
        for (int s : new int[] {-1, 4}) {
            SelfHouse x = fed(20);
            String before = Seen.all(x);
            Due.due("self(" + s + ")", x.self(s), -1);
            Due.due("all that can be seen", Seen.all(x), before);
        }
        Due.says("SELF has these lines, each but the last followed by a byte 10 (what stands behind the blank behind "
            + "the |):");
        SelfHouse x = new SelfHouse();
        x.self(0);
        for (int i = 0; i < want.length; i++) {
            Due.due("text(0, " + i + ")", x.text(0, i), want[i]);
        }
        Due.due("the last byte", x.text(0, want.length - 1), '}');
    }

    private static void bytesOfAText() {
        Due.says("`int text(int s, int i)`: Byte i of TEXT s; NONE when there is none.");
        SelfHouse x = new SelfHouse();
        for (int start = 0; start < 256; start += 20) {
            int b = start;
            x.feed(four(b), four(b + 4), four(b + 8), four(b + 12), four(b + 16));
        }
        x.keep(1, 256);
        for (int i = 0; i < 256; i++) {
            Due.due("text(1, " + i + ")", x.text(1, i), i);
        }
        for (int i : new int[] {-1, 256, 257, 259, 7999, 8000, MIN, MAX}) {
            Due.due("text(1, " + i + ")", x.text(1, i), -1);
        }
        for (int s : new int[] {-1, 0, 2, 3, 4}) {
            Due.due("text(" + s + ", 0)", x.text(s, 0), -1);
        }
    }

    private static int four(int b) {
        return b << 24 | b + 1 << 16 | b + 2 << 8 | b + 3;
    }

    private static void theCallsOfAnObject() {
        Due.says("An object is used for at most 512 calls after it has been made;");
        SelfHouse x = new SelfHouse();
        for (int i = 1; i <= 510; i++) {
            Due.due("feed " + i, x.feed(i, i, i, i, i), i <= 400 ? 20 * i : -1);
        }
        Due.due("keep(3, 8000), the 511th call", x.keep(3, 8000), 8000);
        Due.due("text(3, 7999), the 512th call", x.text(3, 7999), 400 & 255);
    }

    private static void theConstant() {
        Due.says("The constants: `NONE = -1`: None.");
        Due.due("NONE", SelfHouse.NONE, -1);
    }
}
