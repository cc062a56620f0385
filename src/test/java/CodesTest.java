/** Promises 8 to 11: size, word, poke, differ. */
public final class CodesTest {
    private static final int[] NO_CODES = {-1, 6, 7, Integer.MIN_VALUE, Integer.MAX_VALUE};

    public static void main(String[] args) {
        sizesAndWords();
        pokes();
        differences();
        Due.end();
    }

    private static void sizesAndWords() {
        SelfHouse x = Due.house("def main() { put 77; }");
        Due.due("size(0)", x.size(0), 14);
        Due.due("size(5)", x.size(5), 0);
        Due.due("words", Due.words(x, 0), "7919 14 0 1 0 0 0 0 0 77 24 0 0 23");
        for (int i : new int[] {-1, 14, 8000, Integer.MIN_VALUE, Integer.MAX_VALUE}) {
            Due.due("word(0, " + i + ")", x.word(0, i), 0);
        }
        for (int d : NO_CODES) {
            Due.due("size(" + d + ")", x.size(d), -1);
            Due.due("word(" + d + ", 0)", x.word(d, 0), 0);
        }
    }

    private static void pokes() {
        SelfHouse x = Due.house("def main() { put 77; }");
        Due.due("poke(0, 9, MIN)", x.poke(0, 9, Integer.MIN_VALUE), true);
        Due.due("poke(0, 0, -1)", x.poke(0, 0, -1), true);
        Due.due("poke(0, 13, 5)", x.poke(0, 13, 5), true);
        String want = "-1 14 0 1 0 0 0 0 0 -2147483648 24 0 0 5";
        Due.due("words", Due.words(x, 0), want);
        for (int i : new int[] {-1, 14, 7999, 8000, Integer.MIN_VALUE, Integer.MAX_VALUE}) {
            Due.due("poke(0, " + i + ", 1)", x.poke(0, i, 1), false);
        }
        for (int d : NO_CODES) {
            Due.due("poke(" + d + ", 0, 1)", x.poke(d, 0, 1), false);
        }
        Due.due("poke(1, 0, 1)", x.poke(1, 0, 1), false);
        Due.due("words", Due.words(x, 0), want);
        Due.due("size(1)", x.size(1), 0);
    }

    private static void differences() {
        SelfHouse x = Due.house("def main() { put 77; }");
        x.compile(0, 3);
        Due.due("differ(0, 3)", x.differ(0, 3), -1);
        Due.due("differ(0, 0)", x.differ(0, 0), -1);
        Due.due("differ(0, 1)", x.differ(0, 1), 0);
        Due.due("differ(1, 0)", x.differ(1, 0), 0);
        Due.due("differ(1, 2)", x.differ(1, 2), -1);
        x.poke(3, 13, 1);
        Due.due("differ(0, 3)", x.differ(0, 3), 13);
        x.poke(3, 9, 1);
        Due.due("differ(3, 0)", x.differ(3, 0), 9);
        x.poke(3, 0, 1);
        Due.due("differ(0, 3)", x.differ(0, 3), 0);
        Due.put(x, 0, "def main() { put 77; put 1; }");
        x.compile(0, 4);
        x.poke(4, 1, 14);
        Due.due("differ(0, 4)", x.differ(0, 4), 12);
        x.poke(4, 12, 0);
        x.poke(4, 13, 23);
        Due.due("differ(0, 4)", x.differ(0, 4), 14);
        Due.due("differ(4, 0)", x.differ(4, 0), 14);
        for (int d : NO_CODES) {
            Due.due("differ(" + d + ", 0)", x.differ(d, 0), -2);
            Due.due("differ(0, " + d + ")", x.differ(0, d), -2);
            Due.due("differ(" + d + ", " + d + ")", x.differ(d, d), -2);
        }
    }
}
