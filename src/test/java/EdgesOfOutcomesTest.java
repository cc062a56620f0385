/** Part IV, the OUTCOMES: of each the last step that is done and the first that is not, and which of two is told. */
public final class EdgesOfOutcomesTest extends MachineCases {
    /** Of each instruction: good numbers behind it. */
    private static final int[][] INSTRUCTIONS = {{0, 9}, {1, 0}, {2, 0}, {3, 0}, {4, 0}, {5, 0, 3}, {6, 0, 9}, {7}, {8}, {9},
        {10}, {11}, {12}, {13}, {14}, {15}, {16}, {17}, {18}, {19, 0}, {20, 0}, {21, 0}, {22}, {23}, {24}, {25}, {26}};
    /** How many values it takes. */
    private static final int[] TAKES = {0, 0, 1, 0, 1, 1, 2, 2, 2, 2, 2, 2, 1, 2, 2, 2, 2, 2, 2, 0, 1, 0, 1, 1, 1, 0, 0};

    public static void main(String[] args) {
        goesOnAndEnded();
        noPlace();
        noInstruction();
        noNumbers();
        noOwnName();
        noWordOfMemory();
        noItemsOfMemory();
        noPlaceToGoOnAt();
        noProc();
        procsThatCannotBeCalled();
        notAsManyValues();
        notAsManyParameters();
        tooManyValues();
        index();
        zero();
        deep();
        output();
        codeIsTheFirst();
        stackIsTheSecond();
        nothingIsChanged();
        Due.end();
    }

    private static void goesOnAndEnded() {
        Due.says("OUTCOMES: 1 it goes on, 2 ENDED.");
        SelfHouse x = begun(0, 5, 26);
        Due.due("state(0)", x.state(0), 1);
        done(1, 2, 1, x);
        done(2, 3, 1, x);
        Due.due("step(1)", x.step(1), 0);
        Due.due("state(0)", x.state(0), 2);
        done(2, 3, 1, stepped(1, begun(0, 5, 23)));
        // as many steps as there are: what comes behind them is not looked at
        Due.due("state(0)", stepped(1, begun(0, 5, 27)).state(0), 1);
    }

    private static void noPlace() {
        Due.says("3 CODE: the PLACE is no word of code,");
        refused(CODE, stepped(1, begun(0, 5)));
        refused(CODE, stepped(2, begun(0, 5, 22)));
        done(ENDED, 3, 1, stepped(1, begun(0, 5, 26)));
        refused(CODE, stepped(2, begun(0, 7, 20, 0)));
        // behind the last word of an instruction whose numbers are the last ones
        refused(CODE, stepped(1, begun(3, 9)));
        refused(CODE, stepped(3, begun(0, 0, 0, 1, 6, 0, 9)));
    }

    private static void noInstruction() {
        Due.says("or that is none of 0 .. 26,");
        for (int op : new int[] {-1, 27, 28, MIN, MAX, 256, -26}) {
            refused(CODE, begun(op, 0, 0, 26));
            refused(CODE, stepped(1, begun(0, 5, op, 0, 0, 26)));
        }
        done(2, 1, begun(0, 5, 26));
        done(ENDED, 1, 0, begun(26, 0, 0));
    }

    private static void noNumbers() {
        Due.says("or its numbers are not all there,");
        for (int[] instruction : INSTRUCTIONS) {
            int[] values = {0, 3, 0, 2};
            SelfHouse x = stepped(2, begun(join(values, instruction)));
            Due.due("step(1) of " + instruction[0], x.step(1), 1);
            for (int there = 1; there < instruction.length; there++) {
                refused(CODE, stepped(2, begun(join(values, java.util.Arrays.copyOf(instruction, there)))));
            }
        }
    }

    private static void noOwnName() {
        Due.says("or k is not below the proc's own names,");
        for (int owns : new int[] {0, 1, 3, 19, 20}) {
            int[][] main = {proc(0, 0, owns)};
            if (owns > 0) {
                done(4, 2, stepped(1, begun(0, main, 0, 5, 1, owns - 1, 26)));
                done(4, 0, stepped(1, begun(0, main, 0, 5, 2, owns - 1, 26)));
            }
            for (int k : new int[] {owns, owns + 1, 20, 21, MAX, -1, MIN}) {
                refused(CODE, stepped(1, begun(0, main, 0, 5, 1, k, 26)));
                refused(CODE, stepped(1, begun(0, main, 0, 5, 2, k, 26)));
            }
        }
        // the proc's that is at work, not main's
        int[][] procs = {proc(0, 0, 2), proc(6, 0, 1)};
        refused(CODE, stepped(2, begun(0, procs, 1, 1, 21, 1, 1, 1, 1, 1, 26)));
        done(8, 2, stepped(2, begun(0, procs, 1, 1, 21, 1, 1, 1, 1, 0, 26)));
    }

    private static void noWordOfMemory() {
        Due.says("a not 0 .. ROOM - 1");
        for (int room : new int[] {0, 1, 2, 10, 20000}) {
            int[][] main = {proc(0, 0, 0)};
            if (room > 0) {
                done(4, 2, stepped(1, begun(room, main, 0, 5, 3, 0, 26)));
                done(4, 2, stepped(1, begun(room, main, 0, 5, 3, room - 1, 26)));
                done(4, 0, stepped(1, begun(room, main, 0, 5, 4, 0, 26)));
                done(4, 0, stepped(1, begun(room, main, 0, 5, 4, room - 1, 26)));
            }
            for (int a : new int[] {-1, room, room + 1, MIN, MAX}) {
                refused(CODE, stepped(1, begun(room, main, 0, 5, 3, a, 26)));
                refused(CODE, stepped(1, begun(room, main, 0, 5, 4, a, 26)));
            }
        }
    }

    private static void noItemsOfMemory() {
        Due.says("(of 5, 6: a or n below 0, or a + n above ROOM),");
        int[][] good = {{0, 10}, {0, 1}, {9, 1}, {5, 5}, {1, 9}};
        for (int[] g : good) {
            done(7, 2, stepped(2, begun(0, 5, 0, 0, 5, g[0], g[1], 26)));
            done(7, 0, stepped(2, begun(0, 0, 0, 5, 6, g[0], g[1], 26)));
        }
        int[][] bad = {{-1, 1}, {-1, 11}, {0, -1}, {1, -1}, {0, 11}, {1, 10}, {9, 2}, {10, 1}, {11, 0}, {5, 6}, {MIN, 0},
            {0, MIN}, {MIN, MIN}, {MAX, 0}, {0, MAX}, {MAX, MAX}, {MAX, 1}, {1, MAX}, {MIN, MAX}, {MAX, MIN}};
        for (int[] b : bad) {
            refused(CODE, stepped(2, begun(0, 5, 0, 0, 5, b[0], b[1], 26)));
            refused(CODE, stepped(2, begun(0, 0, 0, 5, 6, b[0], b[1], 26)));
        }
        // no items at all are fine as far as the numbers go: there is no index that they have
        for (int a : new int[] {0, 5, 10}) {
            refused(INDEX, stepped(2, begun(0, 5, 0, 0, 5, a, 0, 26)));
            refused(INDEX, stepped(2, begun(0, 0, 0, 5, 6, a, 0, 26)));
        }
        refused(INDEX, stepped(1, begun(0, new int[][] {proc(0, 0, 0)}, 0, 0, 5, 0, 0, 26)));
        refused(CODE, stepped(1, begun(0, new int[][] {proc(0, 0, 0)}, 0, 0, 5, 0, 1, 26)));
    }

    private static void noPlaceToGoOnAt() {
        Due.says("x no word of code,");
        for (int x : new int[] {0, 3, 4}) {
            done(x, 1, stepped(1, begun(0, 0, 19, x, 26)));
            done(x, 0, stepped(1, begun(0, 0, 20, x, 26)));
            done(4, 0, stepped(1, begun(0, 1, 20, x, 26)));
        }
        for (int x : new int[] {-1, 5, 6, MIN, MAX, -8}) {
            refused(CODE, stepped(1, begun(0, 0, 19, x, 26)));
            refused(CODE, stepped(1, begun(0, 0, 20, x, 26)));
            // it need not go there
            refused(CODE, stepped(1, begun(0, 1, 20, x, 26)));
        }
    }

    private static void noProc() {
        Due.says("p is none of the procs,");
        int[][] procs = {proc(0, 0, 0), proc(2, 0, 0), proc(1, 0, 0)};
        done(0, 0, begun(0, procs, 21, 0, 26));
        done(1, 0, begun(0, procs, 21, 2, 26));
        for (int p : new int[] {-1, 3, 4, MIN, MAX, 0x55555555, 0x2aaaaaab}) {
            refused(CODE, begun(0, procs, 21, p, 26));
        }
        // words of code, or of the head, that would make a good proc
        refused(CODE, begun(0, new int[][] {proc(0, 0, 0)}, 21, 1, 0, 0, 0, 0, 0, 26));
        refused(CODE, stepped(1, begun(0, new int[][] {proc(3, 0, 0)}, 0, 0, 0, 19, 5, 21, 1, 26)));
    }

    private static void called(int outcome, int place, int parameters, int owns) {
        int[][] procs = {proc(0, 0, 0), proc(place, parameters, owns)};
        int[] words = {};
        for (int k = 0; k < 21; k++) {
            words = join(words, new int[] {0, k});
        }
        SelfHouse x = stepped(21, begun(0, procs, join(words, new int[] {21, 1, 26})));
        if (outcome == GOES_ON) {
            done(place, 21 - parameters, x);
        } else {
            refused(outcome, x);
        }
    }

    private static void procsThatCannotBeCalled() {
        Due.says("or of proc p the place is no word of code, parameters are below 0 or above its own names, or these above "
            + "20.");
        for (int place : new int[] {0, 1, 43, 44}) {
            called(GOES_ON, place, 0, 0);
        }
        for (int place : new int[] {-1, 45, 46, MIN, MAX}) {
            called(CODE, place, 0, 0);
        }
        int[][] good = {{0, 0}, {0, 1}, {1, 1}, {0, 20}, {19, 20}, {20, 20}};
        for (int[] g : good) {
            called(GOES_ON, 44, g[0], g[1]);
        }
        int[][] bad = {{-1, 0}, {-1, 20}, {1, 0}, {20, 19}, {21, 20}, {0, 21}, {20, 21}, {21, 21}, {0, -1}, {-1, -1}, {MIN, 0},
            {MAX, 0}, {0, MAX}, {MAX, MAX}, {0, MIN}, {MIN, MAX}};
        for (int[] b : bad) {
            called(CODE, 44, b[0], b[1]);
        }
    }

    private static void notAsManyValues() {
        Due.says("6 STACK: there are not as many values of this FRAME as are taken,");
        for (int op = 0; op < TAKES.length; op++) {
            for (int values = 0; values <= 2; values++) {
                int[] pushed = java.util.Arrays.copyOf(new int[] {0, 2, 0, 2}, 2 * values);
                SelfHouse x = stepped(values, begun(join(pushed, INSTRUCTIONS[op], new int[] {26, 26})));
                inAFrame(op, values, x);
                // in a FRAME of its own, below which there are three values more
                int[] calling = {0, 7, 0, 7, 0, 7, 21, 1, 26};
                x = begun(10, new int[][] {proc(0, 0, 1), proc(9, 0, 1)},
                    join(calling, pushed, INSTRUCTIONS[op], new int[] {26, 26}));
                inAFrame(op, values, stepped(4 + values, x));
            }
        }
    }

    private static void inAFrame(int op, int values, SelfHouse x) {
        if (values < TAKES[op]) {
            refused(STACK, x);
        } else {
            Due.due("step(1) of " + op + " with " + values + " values", x.step(1), 1);
            Due.due("the outcome is no trouble", x.state(0) <= 2, true);
        }
    }

    private static void notAsManyParameters() {
        Due.says("6 STACK: there are not as many values of this FRAME as are taken,");
        for (int parameters : new int[] {0, 1, 2, 20}) {
            for (int values : new int[] {parameters - 1, parameters, parameters + 1}) {
                if (values >= 0) {
                    int[] words = {0, 7, 0, 7, 21, 1, 26};
                    for (int k = 0; k < values; k++) {
                        words = join(words, new int[] {0, k});
                    }
                    int[][] procs = {proc(0, 0, 0), proc(7, 0, 0), proc(6, parameters, 20)};
                    SelfHouse x = stepped(3 + values, begun(0, procs, join(words, new int[] {21, 2, 26})));
                    if (values < parameters) {
                        refused(STACK, x);
                    } else {
                        done(6, 2 + values - parameters, x);
                        Due.due("state(4)", x.state(4), 3);
                    }
                }
            }
        }
    }

    private static void tooManyValues() {
        Due.says("or there would be 2001.");
        for (int op : new int[] {0, 1, 3, 25}) {
            int length = INSTRUCTIONS[op].length;
            done(18 + length, 2000, piled(1999, join(INSTRUCTIONS[op], new int[] {26, 26})));
            refused(STACK, piled(2000, join(INSTRUCTIONS[op], new int[] {26, 26})));
        }
        // what takes as many as it puts, or more, can be done with 2000
        int[] left = {0, 0, 1999, 0, 1999, 2000, 1998, 1999, 1999, 1999, 1999, 1999, 2000, 1999, 1999, 1999, 1999, 1999, 1999,
            2000, 1999, 2000, 1999, 1, 1999, 0, 2000};
        for (int op = 2; op < left.length; op++) {
            if (left[op] > 0) {
                // the two latest values are 1 and 3: an index below 4, and a divisor that is not 0
                int[] instruction = op == 5 ? new int[] {5, 0, 4} : INSTRUCTIONS[op];
                SelfHouse x = piled(2000, join(instruction, new int[] {26, 26}));
                Due.due("step(1) of " + op, x.step(1), 1);
                Due.due("state(3) behind " + op, x.state(3), left[op]);
                Due.due("state(0) behind " + op, x.state(0), op == 23 || op == 26 ? ENDED : GOES_ON);
            }
        }
        // a FRAME without parameters can come with 2000 values there; it can't put one of its own
        SelfHouse x = piled(2000, 21, 1, 26);
        done(20, 2000, x);
        x = piled(2000, 12, 21, 0, 26);
        stepped(1, x);
        done(0, 2000, x);
        refused(STACK, x);
    }

    private static void index() {
        Due.says("4 INDEX: i is not 0 .. n - 1.");
        int[][] rows = {{0, 10}, {2, 3}, {9, 1}, {0, 1}, {3, 0}};
        for (int[] r : rows) {
            for (int i : new int[] {0, r[1] - 1}) {
                if (i >= 0 && i < r[1]) {
                    done(5, 1, stepped(1, begun(0, i, 5, r[0], r[1], 26)));
                    done(7, 0, stepped(2, begun(0, i, 0, MIN, 6, r[0], r[1], 26)));
                }
            }
            for (int i : new int[] {-1, r[1], r[1] + 1, MIN, MAX, -r[0] - 1}) {
                refused(INDEX, stepped(1, begun(0, i, 5, r[0], r[1], 26)));
                refused(INDEX, stepped(2, begun(0, i, 0, 0, 6, r[0], r[1], 26)));
            }
        }
        // the index of 6 is the one below the value
        done(7, 0, stepped(2, begun(0, 0, 0, 99, 6, 2, 3, 26)));
        refused(INDEX, stepped(2, begun(0, 99, 0, 0, 6, 2, 3, 26)));
    }

    private static void zero() {
        Due.says("5 ZERO: / or % by 0.");
        for (int op : new int[] {10, 11}) {
            for (int a : new int[] {0, 1, -1, MIN, MAX}) {
                refused(ZERO, stepped(2, begun(0, a, 0, 0, op, 26)));
                for (int b : new int[] {1, -1, MIN, MAX}) {
                    done(5, 1, stepped(2, begun(0, a, 0, b, op, 26)));
                }
            }
        }
        for (int op : new int[] {7, 8, 9, 13, 14, 15, 16, 17, 18}) {
            done(5, 1, stepped(2, begun(0, 5, 0, 0, op, 26)));
        }
    }

    private static void deep() {
        Due.says("7 DEEP: a 251st FRAME.");
        SelfHouse x = framed(249, 0, 21, 2, 26);
        done(18, 0, x);
        Due.due("state(4)", x.state(4), 250);
        refused(DEEP, x);
        refused(DEEP, framed(250, 0, 21, 2, 26));
        refused(DEEP, framed(250, 0, 21, 0, 26));
        refused(DEEP, stepped(1, framed(250, 1, 0, 5, 21, 2, 26)));
        // a FRAME that goes makes room for one more
        x = stepped(2, framed(250, 0, 0, 5, 23));
        Due.due("state(4)", x.state(4), 249);
        Due.due("state(1)", x.state(1), 18);
    }

    private static void output() {
        Due.says("8 OUTPUT: an 8001st word.");
        SelfHouse x = putOut(7999, 0, 5, 24, 0, 6, 24, 26);
        stepped(1, x);
        done(20, 0, x);
        Due.due("state(5)", x.state(5), 8000);
        Due.due("output(7999)", x.output(7999), 5);
        stepped(1, x);
        refused(OUTPUT, x);
        Due.due("state(5)", x.state(5), 8000);
        Due.due("top(0)", x.top(0), 6);
        done(ENDED, 18, 0, putOut(8000, 26));
    }

    private static void codeIsTheFirst() {
        Due.says("The first of 3, 6, 4, 5, 7, 8 is told;");
        // CODE ahead of STACK, for want of values
        for (int[] words : new int[][] {{2, 3, 26}, {4, 10, 26}, {5, 0, 11, 26}, {6, 0, 11, 26}, {20, 3, 26}, {27}, {2}, {6, 0}}) {
            refused(CODE, begun(words));
        }
        refused(STACK, begun(2, 2, 26));
        refused(CODE, begun(10, new int[][] {proc(0, 0, 0), proc(9, 1, 1)}, 21, 1, 26));
        refused(STACK, begun(10, new int[][] {proc(0, 0, 0), proc(2, 1, 1)}, 21, 1, 26));
        // CODE ahead of STACK, the pile being full
        refused(CODE, piled(2000, 1, 3, 26));
        refused(CODE, piled(2000, 3, 10, 26));
        refused(CODE, piled(2000, 0));
        refused(STACK, piled(2000, 1, 2, 26));
        // CODE ahead of INDEX
        refused(CODE, stepped(1, begun(0, -1, 5, 0, 11, 26)));
        refused(INDEX, stepped(1, begun(0, -1, 5, 0, 10, 26)));
        refused(CODE, stepped(2, begun(0, 10, 0, 0, 6, 10, 1, 26)));
        // CODE ahead of DEEP
        refused(CODE, framed(250, 0, 21, 3, 26));
        refused(CODE, framed(250, 0, 21));
        refused(CODE, framed(250, 21, 21, 2, 26));
        // CODE with 8000 words of OUTPUT
        refused(CODE, putOut(8000, 27));
    }

    private static void stackIsTheSecond() {
        Due.says("The first of 3, 6, 4, 5, 7, 8 is told;");
        // ahead of INDEX: the one value is an index that is none, and the value is missing
        refused(STACK, stepped(1, begun(0, -1, 6, 0, 10, 26)));
        refused(STACK, begun(5, 0, 0, 26));
        refused(STACK, begun(6, 0, 0, 26));
        // ahead of ZERO: one value, which is 0
        refused(STACK, stepped(1, begun(0, 0, 10, 26)));
        refused(STACK, stepped(1, begun(0, 0, 11, 26)));
        refused(STACK, begun(10, 26));
        // a 0 that is none of this FRAME's
        refused(STACK, stepped(3, begun(0, new int[][] {proc(0, 0, 0), proc(6, 0, 0)}, 0, 5, 0, 0, 21, 1, 10, 26)));
        // ahead of DEEP
        refused(STACK, framed(250, 1, 21, 2, 26));
        refused(DEEP, framed(250, 0, 21, 2, 26));
        // ahead of OUTPUT
        refused(STACK, putOut(8000, 24, 26));
        refused(OUTPUT, stepped(1, putOut(8000, 0, 1, 24, 26)));
    }

    private static void nothingIsChanged() {
        Due.says("such a step is not done (nothing is changed, none is counted), and the machine is over.");
        // the steps ahead of it are counted, it is not; other steps and a new beginning are as they would be else
        SelfHouse x = begun(0, 8, 24, 0, 7, 2, 1, 0, 6, 4, 1, 0, 5, 0, 0, 10, 26);
        Due.due("step(1000)", x.step(1000), 8);
        Due.due("state(0)", x.state(0), ZERO);
        Due.due("states", states(x), "15 8 2 1 1 0");
        Due.due("top(0)", x.top(0), 0);
        Due.due("top(1)", x.top(1), 5);
        Due.due("own(1)", x.own(1), 7);
        Due.due("memory(1)", x.memory(1), 6);
        Due.due("output(0)", x.output(0), 8);
        Due.due("step(1000)", x.step(1000), 0);
        Due.due("take(1)", x.take(1), 1);
        Due.due("begin(0, -1)", x.begin(0, -1), true);
        Due.due("state(0)", x.state(0), GOES_ON);
        Due.due("states", states(x), "0 0 0 1 0 0");
        Due.due("step(8)", x.step(8), 8);
        Due.due("state(0)", x.state(0), GOES_ON);
        refused(ZERO, x);
    }
}
