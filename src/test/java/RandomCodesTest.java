import java.util.Random;

/** Promises 12 to 18: codes of all kinds, most of them broken somewhere, against a second machine. */
public final class RandomCodesTest {
    private final Random random = new Random(7919);
    private final int[] seen = new int[9];

    public static void main(String[] args) {
        RandomCodesTest test = new RandomCodesTest();
        for (int i = 0; i < 6000; i++) {
            test.oneCode();
        }
        for (int outcome = 1; outcome <= 8; outcome++) {
            Due.due("outcome " + outcome + " was seen", test.seen[outcome] > 0, true);
        }
        System.out.println("outcomes seen: " + java.util.Arrays.toString(test.seen));
        Due.end();
    }

    private void oneCode() {
        int[] words = random.nextInt(10) == 0 ? rounds() : code();
        int[] input = new int[random.nextInt(6)];
        StringBuilder text = new StringBuilder();
        for (int i = 0; i < input.length; i++) {
            input[i] = random.nextInt(256);
            text.append((char) input[i]);
        }
        SelfHouse x = new SelfHouse();
        Due.lay(x, 0, words);
        Due.put(x, 1, text.toString());
        boolean formed = PlainMachine.isFormed(words);
        Due.due("begin", x.begin(0, 1), formed);
        if (!formed) {
            return;
        }
        PlainMachine plain = new PlainMachine(words, input);
        compare(x, plain, words);
        for (int turn = 0; turn < 6; turn++) {
            int n = turn < 4 ? random.nextInt(6) : turn == 4 ? random.nextInt(500) : 300000;
            Due.due("step(" + n + ")", x.step(n), plain.run(n));
            compare(x, plain, words);
        }
        seen[plain.outcome]++;
    }

    private void compare(SelfHouse x, PlainMachine plain, int[] words) {
        String of = " of " + java.util.Arrays.toString(words);
        int[] states = {plain.outcome, plain.place, plain.steps, plain.pile.size(), plain.frameCount(),
            plain.output.size(), plain.read};
        for (int what = 0; what < states.length; what++) {
            Due.due("state(" + what + ")" + of, x.state(what), states[what]);
        }
        for (int k = 0; k < 4; k++) {
            int i = plain.pile.size() - 1 - k;
            Due.due("top(" + k + ")" + of, x.top(k), i < 0 ? 0 : plain.pile.get(i));
        }
        for (int a = 0; a < 8; a++) {
            Due.due("memory(" + a + ")" + of, x.memory(a), a < plain.memory.length ? plain.memory[a] : 0);
        }
        for (int k : new int[] {0, 1, 2, 3, 19}) {
            Due.due("own(" + k + ")" + of, x.own(k), plain.own(k));
        }
        int last = plain.output.size() - 1;
        Due.due("output(" + last + ")" + of, x.output(last), last < 0 ? 0 : plain.output.get(last));
        Due.due("output(0)" + of, x.output(0), last < 0 ? 0 : plain.output.get(0));
    }

    private int[] code() {
        int procs = 1 + random.nextInt(3);
        int length = random.nextInt(40);
        int room = random.nextInt(10);
        int[] words = new int[5 + 3 * procs + length];
        words[0] = 7919;
        words[1] = words.length;
        words[2] = room;
        words[3] = procs;
        words[4] = random.nextInt(procs);
        for (int p = 0; p < procs; p++) {
            int parameters = p == words[4] && random.nextInt(20) > 0 ? 0 : random.nextInt(3);
            words[5 + 3 * p] = random.nextInt(length + 1) * random.nextInt(2);
            words[6 + 3 * p] = parameters;
            words[7 + 3 * p] = parameters + random.nextInt(3);
        }
        for (int i = 0; i < length;) {
            i = instruction(words, 5 + 3 * procs, i, room, procs, length);
        }
        if (random.nextInt(4) == 0) {
            words[random.nextInt(words.length)] = wild();
        }
        return words;
    }

    /** Words that leave the pile as it was, done over and over. */
    private int[] rounds() {
        int[][] parts = {{0, 5, 24}, {25, 24}, {3, 0, 22}, {1, 0, 24}, {0, 3, 0, 9, 9, 4, 1}, {25, 4, 0}, {0, 1, 2, 0}};
        int[] words = new int[8 + 30];
        int at = 8;
        for (int i = 0; i < 4; i++) {
            for (int word : parts[random.nextInt(parts.length)]) {
                words[at++] = word;
            }
        }
        words[at++] = 19;
        words[at++] = 0;
        int[] head = {7919, at, 2, 1, 0, 0, 0, 1};
        System.arraycopy(head, 0, words, 0, 8);
        return java.util.Arrays.copyOf(words, at);
    }

    private int wild() {
        int[] some = {-1, 0, 1, 2, 20, 21, 26, 27, 60, 61, 20000, 20001, Integer.MIN_VALUE, Integer.MAX_VALUE};
        return some[random.nextInt(some.length)];
    }

    /** Mostly ones that put, so that there is something to be taken. */
    private int instruction(int[] words, int base, int at, int room, int procs, int length) {
        int[] putting = {0, 0, 0, 1, 3, 25};
        int op = random.nextInt(5) < 2 ? putting[random.nextInt(putting.length)] : random.nextInt(27);
        int a = 0;
        int n = 0;
        if (op == 0) {
            a = random.nextInt(8) == 0 ? wild() : random.nextInt(5) - 1;
        } else if (op <= 2) {
            a = random.nextInt(3);
        } else if (op <= 4) {
            a = random.nextInt(room + 1);
        } else if (op <= 6) {
            a = random.nextInt(room + 1);
            n = Math.max(0, room - a - random.nextInt(2) + random.nextInt(12) / 11);
        } else if (op == 21) {
            a = random.nextInt(procs);
        } else {
            a = random.nextInt(length);
        }
        int numbers = op <= 4 || op >= 19 && op <= 21 ? 1 : op <= 6 ? 2 : 0;
        int[] all = {op, a, n};
        for (int i = 0; i <= numbers && at + i < length; i++) {
            words[base + at + i] = all[i];
        }
        return at + 1 + numbers;
    }
}
