import java.util.Arrays;

/** Codes laid word by word, the machine brought to where an edge is, and steps that are done or refused there. */
abstract class MachineCases {
    static final int MIN = Integer.MIN_VALUE;
    static final int MAX = Integer.MAX_VALUE;
    static final int GOES_ON = 1;
    static final int ENDED = 2;
    static final int CODE = 3;
    static final int INDEX = 4;
    static final int ZERO = 5;
    static final int STACK = 6;
    static final int DEEP = 7;
    static final int OUTPUT = 8;

    /** A proc: the place of its first word, its parameters, its own names. */
    static int[] proc(int place, int parameters, int owns) {
        return new int[] {place, parameters, owns};
    }

    static int[] join(int[]... rows) {
        int[] all = {};
        for (int[] row : rows) {
            int length = all.length;
            all = Arrays.copyOf(all, length + row.length);
            System.arraycopy(row, 0, all, length, row.length);
        }
        return all;
    }

    static int[] code(int room, int[][] procs, int... words) {
        int[] head = {7919, 5 + 3 * procs.length + words.length, room, procs.length, 0};
        return join(head, join(procs), words);
    }

    /** The machine has begun with these procs, the first being main, and these words of code. */
    static SelfHouse begun(int room, int[][] procs, int... words) {
        SelfHouse x = new SelfHouse();
        Due.lay(x, 0, code(room, procs, words));
        Due.due("begin(0, -1)", x.begin(0, -1), true);
        return x;
    }

    /** The same with main alone, which has ten words of MEMORY and three own names. */
    static SelfHouse begun(int... words) {
        return begun(10, new int[][] {proc(0, 0, 3)}, words);
    }

    static SelfHouse stepped(int steps, SelfHouse x) {
        Due.due("step(" + steps + ")", x.step(steps), steps);
        return x;
    }

    /** The states 1 to 6: PLACE, steps, values, FRAMES, OUTPUT, INPUT. */
    static String states(SelfHouse x) {
        StringBuilder all = new StringBuilder();
        for (int what = 1; what <= 6; what++) {
            all.append(what == 1 ? "" : " ").append(x.state(what));
        }
        return all.toString();
    }

    /** The next step is done, and the machine is at that PLACE then, with so many values. */
    static void done(int outcome, int place, int values, SelfHouse x) {
        int steps = x.state(2);
        Due.due("state(0) ahead of the step", x.state(0), GOES_ON);
        Due.due("step(1)", x.step(1), 1);
        Due.due("state(0)", x.state(0), outcome);
        Due.due("state(1)", x.state(1), place);
        Due.due("state(2)", x.state(2), steps + 1);
        Due.due("state(3)", x.state(3), values);
    }

    static void done(int place, int values, SelfHouse x) {
        done(GOES_ON, place, values, x);
    }

    /** The next step is not done: nothing is changed, none is counted, and the machine is over. */
    static void refused(int outcome, SelfHouse x) {
        String before = Seen.machine(x);
        Due.due("state(0) ahead of the step", x.state(0), GOES_ON);
        Due.due("step(0)", x.step(0), 0);
        Due.due("state(0) behind step(0)", x.state(0), GOES_ON);
        Due.due("step(1)", x.step(1), 0);
        Due.due("state(0)", x.state(0), outcome);
        Due.due("what can be seen of the machine", Seen.machine(x), before);
        Due.due("step(1000000)", x.step(1000000), 0);
        Due.due("state(0) as before", x.state(0), outcome);
        Due.due("what can be seen of the machine", Seen.machine(x), before);
    }

    /** At the first of these words with so many values, 1998 to 2000, on the pile; proc 1 is there, too. */
    static SelfHouse piled(int values, int... words) {
        int[] filling = {0, 1, 3, 0, 0, 1, 7, 4, 0, 3, 0, 0, 1998, 13, 20, 0};
        int[] rest = new int[2 * (values - 1998)];
        for (int i = 1; i < rest.length; i += 2) {
            rest[i] = i;
        }
        int start = filling.length + rest.length;
        SelfHouse x = begun(10, new int[][] {proc(0, 0, 3), proc(start, 0, 0)}, join(filling, rest, words));
        stepped(9 * 1998 + rest.length / 2, x);
        Due.due("state(1)", x.state(1), start);
        Due.due("state(3)", x.state(3), values);
        return x;
    }

    /** At the first of these words, which is at 18, in the FRAME of that number; proc 2 has so many parameters. */
    static SelfHouse framed(int frames, int parameters, int... words) {
        int[] calling = {21, 1, 3, 0, 0, 1, 7, 4, 0, 3, 0, 0, frames - 1, 14, 20, 18, 21, 1};
        SelfHouse x = begun(10, new int[][] {proc(0, 0, 3), proc(2, 0, 3), proc(18, parameters, 20)},
            join(calling, words));
        stepped(9 * frames - 9, x);
        Due.due("state(1)", x.state(1), 18);
        Due.due("state(4)", x.state(4), frames);
        return x;
    }

    /** At the first of these words, which is at 17, with so many words of OUTPUT. */
    static SelfHouse putOut(int outputs, int... words) {
        int[] putting = {0, 7, 24, 3, 0, 0, 1, 7, 4, 0, 3, 0, 0, outputs, 13, 20, 0};
        SelfHouse x = begun(join(putting, words));
        stepped(10 * outputs, x);
        Due.due("state(1)", x.state(1), 17);
        Due.due("state(5)", x.state(5), outputs);
        return x;
    }
}
