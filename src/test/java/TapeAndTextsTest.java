/** Promises 2 to 5: feed, keep, self, text. */
public final class TapeAndTextsTest {
    public static void main(String[] args) {
        bytesComeHighestFirst();
        tapeHolds8000();
        keepRefuses();
        keepUsesTheTapeUp();
        selfIsTheDocumentsText();
        Due.end();
    }

    private static void bytesComeHighestFirst() {
        SelfHouse x = new SelfHouse();
        Due.due("feed", x.feed(0x01020304, 0xfffefdfc, 0, 0x80000001, 0x7f00ff10), 20);
        Due.due("state(7)", x.state(7), 20);
        Due.due("keep(3, 20)", x.keep(3, 20), 20);
        int[] want = {1, 2, 3, 4, 255, 254, 253, 252, 0, 0, 0, 0, 128, 0, 0, 1, 127, 0, 255, 16};
        for (int i = 0; i < 20; i++) {
            Due.due("text(3, " + i + ")", x.text(3, i), want[i]);
        }
        int[] none = {-1, 20, 21, Integer.MIN_VALUE, Integer.MAX_VALUE};
        for (int i : none) {
            Due.due("text(3, " + i + ")", x.text(3, i), -1);
        }
        for (int s : new int[] {-1, 4, 5, Integer.MIN_VALUE, Integer.MAX_VALUE}) {
            Due.due("text(" + s + ", 0)", x.text(s, 0), -1);
        }
    }

    private static void tapeHolds8000() {
        SelfHouse x = new SelfHouse();
        for (int i = 1; i <= 400; i++) {
            Due.due("feed " + i, x.feed(i, i, i, i, i), 20 * i);
        }
        Due.due("feed 401", x.feed(1, 2, 3, 4, 5), -1);
        Due.due("state(7)", x.state(7), 8000);
        Due.due("keep(0, 8001)", x.keep(0, 8001), -1);
        Due.due("keep(0, 8000)", x.keep(0, 8000), 8000);
        Due.due("text(0, 7999)", x.text(0, 7999), 400 & 255);
        Due.due("text(0, 7998)", x.text(0, 7998), 1);
        Due.due("text(0, 8000)", x.text(0, 8000), -1);
        Due.due("feed", x.feed(1, 2, 3, 4, 5), 20);
    }

    private static void keepRefuses() {
        SelfHouse x = new SelfHouse();
        x.feed(0x41424344, 0, 0, 0, 0);
        Due.due("keep(0, 4)", x.keep(0, 4), 4);
        x.feed(0x61626364, 0, 0, 0, 0);
        int[][] refused = {{-1, 1}, {4, 1}, {0, -1}, {0, 21}, {0, Integer.MIN_VALUE}, {0, Integer.MAX_VALUE},
            {Integer.MIN_VALUE, 0}, {Integer.MAX_VALUE, 0}};
        for (int[] r : refused) {
            Due.due("keep(" + r[0] + ", " + r[1] + ")", x.keep(r[0], r[1]), -1);
        }
        Due.due("state(7)", x.state(7), 20);
        Due.due("text(0, 0)", x.text(0, 0), 0x41);
        Due.due("text(0, 4)", x.text(0, 4), -1);
    }

    private static void keepUsesTheTapeUp() {
        SelfHouse x = new SelfHouse();
        x.feed(0x41424344, 0x45464748, 0, 0, 0);
        Due.due("keep(1, 3)", x.keep(1, 3), 3);
        Due.due("state(7)", x.state(7), 0);
        Due.due("text(1, 2)", x.text(1, 2), 0x43);
        Due.due("text(1, 3)", x.text(1, 3), -1);
        Due.due("text(0, 0)", x.text(0, 0), -1);
        x.feed(0x51525354, 0, 0, 0, 0);
        Due.due("keep(1, 1)", x.keep(1, 1), 1);
        Due.due("text(1, 0)", x.text(1, 0), 0x51);
        Due.due("text(1, 1)", x.text(1, 1), -1);
        x.feed(1, 1, 1, 1, 1);
        Due.due("keep(1, 0)", x.keep(1, 0), 0);
        Due.due("text(1, 0)", x.text(1, 0), -1);
        Due.due("state(7)", x.state(7), 0);
    }

    private static void selfIsTheDocumentsText() {
        byte[] want = Due.bytes(Document.self());
        Due.due("SELF's bytes in the document", want.length, 7110);
        SelfHouse x = new SelfHouse();
        for (int s : new int[] {-1, 4, Integer.MIN_VALUE, Integer.MAX_VALUE}) {
            Due.due("self(" + s + ")", x.self(s), -1);
        }
        x.feed(1, 2, 3, 4, 5);
        for (int s = 0; s < 4; s++) {
            Due.due("self(" + s + ")", x.self(s), 7110);
            for (int i = 0; i < want.length; i++) {
                Due.due("text(" + s + ", " + i + ")", x.text(s, i), want[i]);
            }
            Due.due("text(" + s + ", 7110)", x.text(s, 7110), -1);
        }
        Due.due("state(7)", x.state(7), 20);
        Due.due("self(0) once more", x.self(0), 7110);
        Due.due("text(0, 7109)", x.text(0, 7109), '}');
    }
}
