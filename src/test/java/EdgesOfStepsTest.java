/** Part IV: the FORM, MEMORY, the pile, the FRAMES, and what each STEP does with the first and the last of them. */
public final class EdgesOfStepsTest extends MachineCases {
    public static void main(String[] args) {
        theForm();
        theFormOfProcs();
        memory();
        values();
        frames();
        theValuesOfOtherFrames();
        theCallOfMain();
        thePlaceBehind();
        numbers();
        ownWords();
        memoryWords();
        items();
        signs();
        goingOn();
        calls();
        returns();
        putsAndGets();
        theStop();
        Due.end();
    }

    /** CODE 5 is these words; another machine is at work when it is begun, and goes on if that is refused. */
    private static void formed(boolean want, int... words) {
        SelfHouse x = new SelfHouse();
        Due.lay(x, 5, words);
        Due.lay(x, 0, code(3, new int[][] {proc(0, 0, 2), proc(10, 1, 2)},
            25, 2, 0, 0, 9, 24, 25, 21, 1, 26, 1, 0, 4, 0, 0, 5, 26));
        x.begin(0, 2);
        stepped(8, x);
        String before = Seen.all(x);
        String shown = "begin with " + words.length + " words " + java.util.Arrays.toString(
            java.util.Arrays.copyOf(words, Math.min(9, words.length)));
        Due.due(shown, x.begin(5, -1), want);
        if (want) {
            Due.due("state(2), " + shown, x.state(2), 0);
            Due.due("state(5), " + shown, x.state(5), 0);
        } else {
            Due.due("all that can be seen, " + shown, Seen.all(x), before);
        }
    }

    /** The words of a good code, one of which is another one. */
    private static void altered(boolean want, int at, int v) {
        int[] words = {7919, 12, 10, 2, 1, 0, 0, 0, 0, 0, 0, 26};
        words[at] = v;
        formed(want, words);
    }

    private static void theForm() {
        Due.says("begin() wants the FORM: at least 5 words, the first 7919, the second how many there are, the third "
            + "(ROOM) 0 .. 20000, the fourth (procs) 0 .. 60 and 5 + 3 * procs not above the second, the fifth 0 .. "
            + "procs - 1.");
        altered(true, 0, 7919);
        for (int v : new int[] {7918, 7920, 0, -7919, MIN, MAX}) {
            altered(false, 0, v);
        }
        for (int v : new int[] {11, 13, 0, -12, MIN, MAX}) {
            altered(false, 1, v);
        }
        for (int v : new int[] {0, 1, 19999, 20000}) {
            altered(true, 2, v);
        }
        for (int v : new int[] {-1, 20001, MIN, MAX}) {
            altered(false, 2, v);
        }
        for (int v : new int[] {0, 1}) {
            altered(true, 4, v);
        }
        for (int v : new int[] {-1, 2, MIN, MAX}) {
            altered(false, 4, v);
        }
        formed(false);
        formed(false, 7919);
        formed(false, 7919, 2);
        formed(false, 7919, 4, 0, 1);
        formed(false, 7919, 5, 0, 0, 0);
        formed(false, 7919, 5, 0, 0, -1);
        formed(false, 7919, 5, 0, 1, 0);
    }

    private static void theFormOfProcs() {
        Due.says("the fourth (procs) 0 .. 60 and 5 + 3 * procs not above the second, the fifth 0 .. procs - 1.");
        altered(true, 3, 2);
        // of one proc, of two, of as many as there is room for and one more
        altered(false, 3, 1);
        for (int v : new int[] {-1, 0, 3, 60, 61, MIN, MAX, 0x55555555, 0x2aaaaaab}) {
            altered(false, 3, v);
        }
        formed(false, 7919, 7, 0, 1, 0, 0, 0);
        formed(true, 7919, 8, 0, 1, 0, 0, 0, 0);
        formed(false, 7919, 10, 0, 2, 0, 0, 0, 0, 0, 0);
        formed(true, 7919, 11, 0, 2, 1, 0, 0, 0, 0, 0, 0);
        for (int procs : new int[] {59, 60, 61}) {
            for (int main : new int[] {-1, 0, procs - 1, procs}) {
                for (int more : new int[] {-1, 0, 1}) {
                    int[] words = new int[5 + 3 * procs + more];
                    words[0] = 7919;
                    words[1] = words.length;
                    words[3] = procs;
                    words[4] = main;
                    formed(procs <= 60 && main >= 0 && main < procs && more >= 0, words);
                }
            }
        }
    }

    private static void memory() {
        Due.says("MEMORY has ROOM words, 0 at first.");
        int[][] main = {proc(0, 0, 0)};
        refused(CODE, begun(0, main, 3, 0, 26));
        done(2, 1, begun(1, main, 3, 0, 26));
        refused(CODE, begun(1, main, 3, 1, 26));
        done(2, 1, begun(20000, main, 3, 19999, 26));
        refused(CODE, begun(20000, main, 3, 20000, 26));
        SelfHouse x = stepped(4, begun(20000, main, 0, 7, 4, 19999, 0, 8, 4, 0, 26));
        Due.due("memory(0)", x.memory(0), 8);
        Due.due("memory(19999)", x.memory(19999), 7);
        Due.due("memory(20000)", x.memory(20000), 0);
        // begun anew, the words are 0, and there are no more than the new ROOM
        x.poke(0, 2, 19999);
        Due.due("begin(0, -1)", x.begin(0, -1), true);
        for (int a : new int[] {0, 1, 19998, 19999}) {
            Due.due("memory(" + a + ")", x.memory(a), 0);
        }
        stepped(1, x);
        refused(CODE, x);
        x.poke(0, 2, 20000);
        Due.due("begin(0, -1)", x.begin(0, -1), true);
        Due.due("memory(19999)", x.memory(19999), 0);
    }

    private static void values() {
        Due.says("VALUES lie on a pile, at most 2000;");
        SelfHouse x = piled(1999, 0, 5, 0, 6, 26);
        done(20, 2000, x);
        refused(STACK, x);
        Due.due("top(0)", x.top(0), 5);
        Due.due("top(1999)", x.top(1999), 1);
        Due.due("top(2000)", x.top(2000), 0);
        x = piled(2000, 22, 0, 6, 26);
        done(21, 1999, x);
        done(23, 2000, x);
        done(ENDED, 24, 2000, x);
    }

    private static void frames() {
        Due.says("FRAMES, at most 250, each with its proc and its OWN words (20),");
        SelfHouse x = framed(249, 0, 21, 2, 26);
        done(18, 0, x);
        Due.due("state(4)", x.state(4), 250);
        refused(DEEP, x);
        Due.due("state(4)", x.state(4), 250);
        done(20, 0, framed(250, 0, 19, 20, 26));
        // the proc of the FRAME is the one that was called: 2 has 20 own names, 1 has 3
        x = stepped(2, framed(2, 0, 21, 2, 0, 5, 26));
        Due.due("state(4)", x.state(4), 4);
        x = begun(0, new int[][] {proc(0, 0, 3), proc(4, 0, 20)}, 21, 1, 1, 3, 0, 7, 2, 19, 1, 19, 23);
        stepped(4, x);
        Due.due("own(19)", x.own(19), 7);
        stepped(1, x);
        Due.due("own(19), main's", x.own(19), 0);
        refused(CODE, x);
    }

    private static void theValuesOfOtherFrames() {
        Due.says("and the values that lay there when it came are none of its.");
        for (int given = 0; given <= 2; given++) {
            // three values lie there, proc 1 takes so many of them; behind 22 it has none of its own
            SelfHouse x = begun(0, new int[][] {proc(0, 0, 0), proc(9, given, 2)},
                0, 1, 0, 2, 0, 3, 21, 1, 26, 0, 4, 22, 22, 26);
            stepped(4, x);
            Due.due("state(3)", x.state(3), 3 - given);
            done(11, 4 - given, x);
            done(12, 3 - given, x);
            refused(STACK, x);
        }
    }

    private static void mainCall(int outcome, int place, int parameters, int owns) {
        String shown = ", main at " + place + " with " + parameters + " of " + owns;
        SelfHouse x = new SelfHouse();
        // the machine was at work ahead of it, with values, FRAMES and OUTPUT
        Due.lay(x, 1, code(2, new int[][] {proc(0, 0, 1), proc(0, 0, 1)}, 0, 5, 24, 0, 6, 2, 0, 0, 7, 21, 1, 26));
        x.begin(1, 2);
        stepped(20, x);
        Due.lay(x, 0, code(2, new int[][] {proc(place, parameters, owns)}, 0, 5, 26));
        Due.due("begin(0, -1)" + shown, x.begin(0, -1), true);
        Due.due("state(0)" + shown, x.state(0), outcome);
        Due.due("states" + shown, states(x), outcome == GOES_ON ? place + " 0 0 1 0 0" : "0 0 0 0 0 0");
        Due.due("top(0)" + shown, x.top(0), 0);
        Due.due("own(0)" + shown, x.own(0), 0);
        if (outcome != GOES_ON) {
            Due.due("step(1)" + shown, x.step(1), 0);
            Due.due("state(0)" + shown, x.state(0), outcome);
        }
    }

    private static void theCallOfMain() {
        Due.says("It begins by a call of main, as by 21 (which is no step; if that can't be done the machine is over with "
            + "that outcome, with no FRAME and PLACE 0).");
        mainCall(GOES_ON, 0, 0, 0);
        mainCall(GOES_ON, 2, 0, 0);
        mainCall(CODE, 3, 0, 0);
        mainCall(CODE, -1, 0, 0);
        mainCall(CODE, MIN, 0, 0);
        mainCall(CODE, MAX, 0, 0);
        mainCall(GOES_ON, 2, 0, 20);
        mainCall(CODE, 2, 0, 21);
        mainCall(CODE, 2, 0, -1);
        mainCall(CODE, 2, -1, 0);
        mainCall(CODE, 2, 1, 0);
        mainCall(STACK, 2, 1, 1);
        mainCall(STACK, 2, 20, 20);
        mainCall(CODE, 2, 21, 21);
        mainCall(CODE, 2, MIN, 0);
        mainCall(CODE, 2, MAX, MAX);
        // a code that has no words of code at all
        SelfHouse x = begun(0, new int[][] {proc(0, 0, 0)});
        Due.due("state(0)", x.state(0), CODE);
    }

    private static void thePlaceBehind() {
        Due.says("A STEP does the instruction at the PLACE (a word of code, and its numbers behind it), which is then "
            + "behind them, or where it goes.");
        int[][] instructions = {{0, 9}, {1, 0}, {2, 0}, {3, 0}, {4, 0}, {5, 0, 3}, {6, 0, 9}, {7}, {8}, {9}, {10}, {11}, {12},
            {13}, {14}, {15}, {16}, {17}, {18}, {19, 4}, {20, 0}, {21, 0}, {22}, {23}, {24}, {25}, {26}};
        int[] puts = {1, 1, -1, 1, -1, 0, -2, -1, -1, -1, -1, -1, 0, -1, -1, -1, -1, -1, -1, 0, -1, 0, -1, -1, -1, 1, 0};
        for (int op = 0; op < instructions.length; op++) {
            SelfHouse x = begun(join(new int[] {0, 8, 0, 2}, instructions[op], new int[] {26, 26}));
            stepped(2, x);
            int place = op == 19 ? 4 : op == 21 ? 0 : 4 + instructions[op].length;
            done(op == 23 || op == 26 ? ENDED : GOES_ON, place, 2 + puts[op], x);
            Due.due("state(4) behind " + op, x.state(4), op == 21 ? 2 : op == 23 ? 0 : 1);
            Due.due("state(5) behind " + op, x.state(5), op == 24 ? 1 : 0);
            // the last words of code can be an instruction, too: what is not there is the one behind it
            x = begun(join(new int[] {0, 8, 0, 2}, instructions[op]));
            stepped(3, x);
            if (op != 19 && op != 21 && op != 23 && op != 26) {
                refused(CODE, x);
            }
        }
    }

    private static void numbers() {
        Due.says("0 n: n is put on the pile.");
        for (int n : new int[] {0, 1, -1, MIN, MAX}) {
            SelfHouse x = begun(0, n, 26);
            done(2, 1, x);
            Due.due("top(0)", x.top(0), n);
        }
    }

    private static void ownWords() {
        Due.says("1 k: OWN word k; 2 k: it is what is taken.");
        int[][] main = {proc(0, 0, 20)};
        SelfHouse x = begun(0, main, 0, MIN, 2, 0, 0, MAX, 2, 19, 1, 0, 1, 19, 1, 1, 26);
        stepped(1, x);
        done(4, 0, x);
        Due.due("own(0)", x.own(0), MIN);
        stepped(1, x);
        done(8, 0, x);
        Due.due("own(19)", x.own(19), MAX);
        stepped(3, x);
        Due.due("top(2)", x.top(2), MIN);
        Due.due("top(1)", x.top(1), MAX);
        Due.due("top(0)", x.top(0), 0);
        for (int k = 1; k < 19; k++) {
            Due.due("own(" + k + ")", x.own(k), 0);
        }
    }

    private static void memoryWords() {
        Due.says("3 a, 4 a: MEMORY likewise.");
        SelfHouse x = begun(0, MIN, 4, 0, 0, MAX, 4, 9, 3, 0, 3, 9, 3, 8, 26);
        stepped(7, x);
        Due.due("memory(0)", x.memory(0), MIN);
        Due.due("memory(9)", x.memory(9), MAX);
        Due.due("top(2)", x.top(2), MIN);
        Due.due("top(1)", x.top(1), MAX);
        Due.due("top(0)", x.top(0), 0);
        Due.due("state(3)", x.state(3), 3);
        for (int a = 1; a < 9; a++) {
            Due.due("memory(" + a + ")", x.memory(a), 0);
        }
    }

    private static void items() {
        Due.says("5 a n: an index i is taken, word a + i is put. 6 a n: a value, then an index are taken, word a + i is "
            + "that value.");
        int[][] rows = {{0, 10, 0}, {0, 10, 9}, {9, 1, 0}, {2, 3, 0}, {2, 3, 2}, {5, 5, 4}, {0, 1, 0}};
        for (int[] r : rows) {
            SelfHouse x = begun(0, r[2], 0, 77, 6, r[0], r[1], 0, r[2], 5, r[0], r[1], 26);
            stepped(2, x);
            done(7, 0, x);
            for (int a = 0; a < 10; a++) {
                Due.due("memory(" + a + ")", x.memory(a), a == r[0] + r[2] ? 77 : 0);
            }
            stepped(1, x);
            done(12, 1, x);
            Due.due("top(0)", x.top(0), 77);
        }
        SelfHouse x = begun(20000, new int[][] {proc(0, 0, 0)}, 0, 19999, 0, 5, 6, 0, 20000, 0, 0, 5, 19999, 1, 26);
        stepped(5, x);
        Due.due("memory(19999)", x.memory(19999), 5);
        Due.due("top(0)", x.top(0), 5);
    }

    private static int made(int op, long a, long b) {
        long[] all = {a + b, a - b, a * b, b == 0 ? 0 : a / b, b == 0 ? 0 : a % b, 0, a == b ? 1 : 0, a != b ? 1 : 0,
            a < b ? 1 : 0, a <= b ? 1 : 0, a > b ? 1 : 0, a >= b ? 1 : 0};
        return (int) all[op - 7];
    }

    private static void signs() {
        Due.says("7 .. 11, 13 .. 18: the second, then the first are taken, what it makes is put. 12: of one.");
        int[] some = {MIN, MIN + 1, -7, -1, 0, 1, 7, 65536, MAX - 1, MAX};
        int[] most = {7, 8, 9, 10, 11, 13, 14, 15, 16, 17, 18};
        for (int a : some) {
            for (int b : some) {
                // all that can be made of the two; what is divided by 0 has a test of its own
                int[] words = {};
                int count = 0;
                for (int op : most) {
                    if (b != 0 || op != 10 && op != 11) {
                        words = join(words, new int[] {0, a, 0, b, op});
                        count++;
                    }
                }
                SelfHouse x = stepped(3 * count, begun(join(words, new int[] {26})));
                Due.due("state(3)", x.state(3), count);
                for (int op : most) {
                    if (b != 0 || op != 10 && op != 11) {
                        count--;
                        Due.due(a + " " + op + " " + b, x.top(count), made(op, a, b));
                    }
                }
            }
            SelfHouse x = stepped(1, begun(0, a, 12, 26));
            done(3, 1, x);
            Due.due("12 of " + a, x.top(0), (int) -(long) a);
        }
    }

    private static void goingOn() {
        Due.says("19 x: on at x. 20 x: one is taken; on at x if it is 0.");
        done(0, 0, begun(19, 0, 26));
        done(2, 0, begun(19, 2, 26));
        done(1, 0, begun(19, 1));
        for (int v : new int[] {0, 1, -1, MIN, MAX}) {
            done(v == 0 ? 0 : 4, 0, stepped(1, begun(0, v, 20, 0, 26)));
            done(v == 0 ? 5 : 4, 0, stepped(1, begun(0, v, 20, 5, 26, 26)));
            done(v == 0 ? 3 : 4, 0, stepped(1, begun(0, v, 20, 3)));
        }
    }

    private static void calls() {
        Due.says("21 p: as many as proc p's parameters are taken: they are the first OWN words of a new FRAME in order, the "
            + "others 0; on at its place.");
        for (int given : new int[] {0, 1, 2, 19, 20}) {
            int[] words = {};
            for (int k = 0; k < 20; k++) {
                words = join(words, new int[] {0, 100 + k});
            }
            words = join(words, new int[] {21, 1, 26, 26});
            SelfHouse x = begun(0, new int[][] {proc(0, 0, 0), proc(43, given, 20)}, words);
            stepped(20, x);
            done(43, 20 - given, x);
            Due.due("state(4)", x.state(4), 2);
            for (int k = 0; k < 20; k++) {
                Due.due("own(" + k + ") of " + given, x.own(k), k < given ? 100 + 20 - given + k : 0);
            }
            Due.due("top(0)", x.top(0), given == 20 ? 0 : 119 - given);
        }
        // the 60th proc, at the last word of code
        int[][] procs = new int[60][];
        for (int p = 0; p < 60; p++) {
            procs[p] = proc(p == 59 ? 4 : 0, 0, 0);
        }
        done(4, 0, begun(0, procs, 21, 59, 0, 0, 26));
        done(0, 0, begun(0, procs, 21, 58, 0, 0, 26));
        refused(CODE, begun(0, procs, 21, 60, 0, 0, 26));
    }

    private static void returns() {
        Due.says("22: one is taken. 23: one is taken, the FRAME goes with its values, and that is put; on behind the call; "
            + "when it was the first FRAME the machine has ENDED (the PLACE behind the 23, no FRAMES, that value on the "
            + "pile).");
        done(3, 0, stepped(1, begun(0, 5, 22, 26)));
        for (int own = 1; own <= 3; own++) {
            // proc 1 has so many values of its own when it returns the last of them
            int[] words = {0, 1, 0, 2, 21, 1, 26};
            for (int v = 1; v <= own; v++) {
                words = join(words, new int[] {0, 10 * v});
            }
            SelfHouse x = begun(0, new int[][] {proc(0, 0, 1), proc(7, 1, 2)}, join(words, new int[] {23}));
            stepped(3 + own, x);
            Due.due("state(3)", x.state(3), 1 + own);
            done(6, 2, x);
            Due.due("state(4)", x.state(4), 1);
            Due.due("top(0)", x.top(0), 10 * own);
            Due.due("top(1)", x.top(1), 1);
        }
        for (int own = 1; own <= 3; own++) {
            int[] words = {};
            for (int v = 1; v <= own; v++) {
                words = join(words, new int[] {0, 10 * v});
            }
            SelfHouse x = stepped(own, begun(join(words, new int[] {23})));
            done(ENDED, 2 * own + 1, 1, x);
            Due.due("states", states(x), 2 * own + 1 + " " + (own + 1) + " 1 0 0 0");
            Due.due("top(0)", x.top(0), 10 * own);
            Due.due("own(0)", x.own(0), 0);
            Due.due("step(1)", x.step(1), 0);
        }
        // behind a call that has the last words of code there is none to go on at
        SelfHouse x = begun(0, new int[][] {proc(3, 0, 0), proc(0, 0, 0)}, 0, 5, 23, 21, 1);
        stepped(3, x);
        Due.due("state(1)", x.state(1), 5);
        refused(CODE, x);
    }

    private static void putsAndGets() {
        Due.says("24: one is taken: OUTPUT. 25: the INPUT's next byte (0 .. 255), -1 behind its end, is put.");
        SelfHouse x = begun(0, MIN, 0, MAX, 24, 24, 26);
        stepped(2, x);
        done(5, 1, x);
        Due.due("output(0)", x.output(0), MAX);
        done(6, 0, x);
        Due.due("output(1)", x.output(1), MIN);
        StringBuilder bytes = new StringBuilder();
        for (int i = 0; i < 8000; i++) {
            bytes.append((char) (i * 7 & 255));
        }
        Due.lay(x, 0, code(0, new int[][] {proc(0, 0, 0)}, 25, 22, 19, 0));
        Due.put(x, 0, bytes.toString());
        Due.due("begin(0, 0)", x.begin(0, 0), true);
        for (int i = 0; i < 8003; i++) {
            done(1, 1, x);
            Due.due("byte " + i, x.top(0), i < 8000 ? i * 7 & 255 : -1);
            Due.due("state(6)", x.state(6), Math.min(i + 1, 8000));
            stepped(2, x);
        }
        Due.put(x, 0, "");
        x.begin(0, 0);
        done(1, 1, x);
        Due.due("of an empty INPUT", x.top(0), -1);
        Due.due("state(6)", x.state(6), 0);
    }

    private static void theStop() {
        Due.says("26: ENDED (the PLACE behind it; FRAMES and values stay).");
        SelfHouse x = begun(0, new int[][] {proc(0, 0, 1), proc(6, 1, 1)}, 0, 1, 0, 2, 21, 1, 0, 3, 26);
        stepped(4, x);
        done(ENDED, 9, 2, x);
        Due.due("states", states(x), "9 5 2 2 0 0");
        Due.due("top(0)", x.top(0), 3);
        Due.due("top(1)", x.top(1), 1);
        Due.due("own(0)", x.own(0), 2);
        Due.due("step(1)", x.step(1), 0);
        Due.due("states", states(x), "9 5 2 2 0 0");
        done(ENDED, 1, 0, begun(26));
    }
}
