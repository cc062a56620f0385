/** Promises 12 to 19: begin, step and take, and the questions about the machine, inside and beyond their bounds. */
public final class EdgesOfAnswersTest extends MachineCases {
    private static final int[] NO_CODES = {-1, 6, MIN, MAX};

    public static void main(String[] args) {
        beginsAsItIsNow();
        beginRefuses();
        nothingIsLeft();
        noFrameIsLeft();
        steps();
        stepRefuses();
        statesAheadOfBegin();
        statesOfARun();
        otherStates();
        tops();
        words();
        owns();
        outputs();
        takes();
        takeRefuses();
        Due.end();
    }

    private static void beginsAsItIsNow() {
        Due.says("`boolean begin(int d, int s)`: The machine begins anew with CODE d (as it is now), and TEXT s (as it is "
            + "now) as INPUT (s NONE: none): true;");
        for (int d = 0; d <= 5; d++) {
            for (int s = -1; s <= 3; s++) {
                SelfHouse x = new SelfHouse();
                for (int t = 0; t <= 3; t++) {
                    Due.put(x, t, "def main() { put get; put " + t + "; put get; }");
                    x.compile(t, (d + t) % 6);
                }
                String input = "PQRS";
                for (int t = 0; t <= 3; t++) {
                    Due.put(x, t, input.substring(t, t + 1));
                }
                Due.due("begin(" + d + ", " + s + ")", x.begin(d, s), true);
                // neither a new TEXT nor an altered CODE is seen by the machine that has begun
                if (s >= 0) {
                    Due.put(x, s, "xyz");
                }
                for (int i = 0; i < x.size(d); i++) {
                    x.poke(d, i, 0);
                }
                Due.due("step(100)", x.step(100), 8);
                Due.due("outputs", Due.outputs(x), (s < 0 ? -1 : input.charAt(s)) + " 0 -1");
                Due.due("begin(" + d + ", " + s + ") of what is no code now", x.begin(d, s), false);
                Due.due("outputs", Due.outputs(x), (s < 0 ? -1 : input.charAt(s)) + " 0 -1");
            }
        }
        inputOneBehindTheOther();
        SelfHouse x = Due.house("def main() { put 5; }");
        x.begin(0, -1);
        x.poke(0, 9, 6);
        x.step(2);
        Due.due("output(0)", x.output(0), 5);
        x.begin(0, -1);
        x.step(2);
        Due.due("output(0), begun anew", x.output(0), 6);
    }

    private static void inputOneBehindTheOther() {
        SelfHouse x = Due.house("def main() { put get; put get; put get; }");
        Due.put(x, 1, "ab");
        Due.put(x, 2, "c");
        int[] texts = {1, 2, 3, 1, -1, 2, -1};
        String[] want = {"97 98 -1", "99 -1 -1", "-1 -1 -1", "97 98 -1", "-1 -1 -1", "99 -1 -1", "-1 -1 -1"};
        for (int i = 0; i < texts.length; i++) {
            Due.due("begin(0, " + texts[i] + ")", x.begin(0, texts[i]), true);
            x.step(100);
            Due.due("outputs", Due.outputs(x), want[i]);
        }
    }

    private static void beginRefuses() {
        Due.says("false when there is no such CODE or TEXT, or the CODE has not the FORM.");
        SelfHouse x = Due.begun("var v; def f(a) { put get; v = a; put v + f(a + 1); } def main() { f(1); }", "abc");
        x.step(30);
        String before = Seen.all(x);
        for (int d : NO_CODES) {
            for (int s = -1; s <= 3; s++) {
                Due.due("begin(" + d + ", " + s + ")", x.begin(d, s), false);
            }
        }
        for (int s : new int[] {-2, 4, MIN, MAX}) {
            for (int d = -1; d <= 6; d++) {
                Due.due("begin(" + d + ", " + s + ")", x.begin(d, s), false);
            }
        }
        for (int d = 1; d <= 5; d++) {
            Due.due("begin(" + d + ", 0) of an empty CODE", x.begin(d, 0), false);
        }
        Due.due("all that can be seen", Seen.all(x), before);
        x.step(1000);
        SelfHouse twin = Due.begun("var v; def f(a) { put get; v = a; put v + f(a + 1); } def main() { f(1); }", "abc");
        twin.step(1030);
        Due.due("all that can be seen later", Seen.all(x), Seen.all(twin));
    }

    private static void nothingIsLeft() {
        Due.says("(OUTPUT and steps are none then; the call of main may end it at once.)");
        SelfHouse x = Due.begun("var v[9]; def f(a) { put get; v[8] = 1; put 7 + f(a); } def main() { let a = 3; f(1); }", "abc");
        x.step(100);
        Due.due("there is some OUTPUT", x.state(5) > 0 && x.state(6) > 0 && x.state(4) > 2, true);
        Due.due("begin(0, 1)", x.begin(0, 1), true);
        Due.due("states", states(x), x.word(0, 8) + " 0 0 1 0 0");
        Due.due("output(0)", x.output(0), 0);
        Due.due("memory(8)", x.memory(8), 0);
        Due.due("own(0)", x.own(0), 0);
        Due.due("take(1)", x.take(1), 0);
        // it is as a house whose machine has not begun ahead of it
        SelfHouse other = Due.house("var v[9]; def f(a) { put get; v[8] = 1; put 7 + f(a); } def main() { let a = 3; f(1); }");
        Due.put(other, 1, "abc");
        other.begin(0, 1);
        for (int i = 0; i < 60; i++) {
            Due.due("step(3)", x.step(3), other.step(3));
            Due.due("what can be seen of the machine", Seen.machine(x), Seen.machine(other));
        }
        x.step(1000000);
        Due.due("state(4)", x.state(4), 250);
        Due.due("begin(0, 1) behind 250 FRAMES", x.begin(0, 1), true);
        Due.due("step(1000000)", x.step(1000000), other.state(2) + other.step(1000000));
        Due.due("what can be seen of the machine", Seen.machine(x), Seen.machine(other));
        x.poke(0, 4, 0);
        Due.due("begin(0, 1), main being f", x.begin(0, 1), true);
        Due.due("state(0)", x.state(0), STACK);
        Due.due("states", states(x), "0 0 0 0 0 0");
        Due.due("step(1)", x.step(1), 0);
        Due.due("memory(8)", x.memory(8), 0);
    }

    /** Of 250 FRAMES none is left either: as many can come and go once more. */
    private static void noFrameIsLeft() {
        Due.says("The machine begins anew");
        SelfHouse x = Due.begun("def f(n) { if n { return n + f(n - 1); } return 0; }"
            + " def main() { let n = get; put f(n); put f(n) + 1; }", "\u00f9");
        for (char n : new char[] {248, 249, 248, 249, 249, 3, 248}) {
            Due.put(x, 1, String.valueOf(n));
            x.begin(0, 1);
            x.step(1000000);
            Due.due("state(0)", x.state(0), n < 249 ? ENDED : DEEP);
            Due.due("state(4)", x.state(4), n < 249 ? 0 : 250);
            int sum = n * (n + 1) / 2;
            Due.due("outputs", Due.outputs(x), n < 249 ? sum + " " + (sum + 1) : "");
        }
    }

    private static void steps() {
        Due.says("`int step(int n)`: Up to n steps (0 .. 1000000) while the machine goes on,");
        SelfHouse x = Due.begun("def main() { while 1 { } }", "");
        Due.due("step(0)", x.step(0), 0);
        Due.due("step(1)", x.step(1), 1);
        Due.due("step(999999)", x.step(999999), 999999);
        Due.due("step(1000000)", x.step(1000000), 1000000);
        Due.due("state(2)", x.state(2), 2000000);
        for (int n = 0; n <= 6; n++) {
            SelfHouse y = begun(0, 1, 0, 2, 0, 3, 0, 4, 26);
            Due.due("step(" + n + ") of five", y.step(n), Math.min(n, 5));
            Due.due("state(0)", y.state(0), n < 5 ? GOES_ON : ENDED);
            Due.due("step(1000000)", y.step(1000000), 5 - Math.min(n, 5));
            Due.due("step(1000000)", y.step(1000000), 0);
            Due.due("state(2)", y.state(2), 5);
        }
        Due.says("and fewer than 60000000 were done in all: how many were done.");
        x = Due.begun("def main() { while 1 { } }", "");
        for (int i = 0; i < 59; i++) {
            Due.due("step(1000000)", x.step(1000000), 1000000);
        }
        Due.due("step(999999), to 59999999", x.step(999999), 999999);
        Due.due("step(2), to 60000000", x.step(2), 1);
        Due.due("step(1)", x.step(1), 0);
        Due.due("state(0)", x.state(0), GOES_ON);
        Due.due("state(2)", x.state(2), 60000000);
    }

    private static void stepRefuses() {
        Due.says("NONE for another n, or when it has not begun.");
        SelfHouse x = Due.house("def main() { while 1 { } }");
        for (int n : new int[] {-1, 0, 1, 1000000, 1000001, MIN, MAX}) {
            Due.due("step(" + n + "), not begun", x.step(n), -1);
        }
        x.begin(1, -1);
        Due.due("step(0) behind a refused begin", x.step(0), -1);
        x.begin(0, -1);
        x.step(10);
        String before = Seen.all(x);
        for (int n : new int[] {-1, 1000001, MIN, MAX}) {
            Due.due("step(" + n + ")", x.step(n), -1);
        }
        Due.due("all that can be seen", Seen.all(x), before);
        x = stepped(1, begun(26));
        Due.due("step(-1) of what has ENDED", x.step(-1), -1);
        Due.due("step(1000001) of what has ENDED", x.step(1000001), -1);
        Due.due("step(1000000) of what has ENDED", x.step(1000000), 0);
        Due.due("step(0) of what has ENDED", x.step(0), 0);
        x = begun(0, new int[][] {proc(9, 0, 0)}, 26);
        Due.due("step(-1) of what was over at once", x.step(-1), -1);
        Due.due("step(1) of what was over at once", x.step(1), 0);
    }

    private static void statesAheadOfBegin() {
        Due.says("`int state(int what)`: What 0 the outcome (0 when it has not begun),");
        SelfHouse x = Due.house("def main() { put 1; }");
        Due.due("state(0)", x.state(0), 0);
        x.begin(1, -1);
        x.begin(0, 4);
        Due.due("state(0) behind refused ones", x.state(0), 0);
        x.begin(0, -1);
        Due.due("state(0)", x.state(0), 1);
        Due.says("7 bytes of the TAPE (1 to 6: 0 when it has not begun).");
        x = Due.house("def main() { put 1; }");
        x.feed(1, 1, 1, 1, 1);
        for (int what = 1; what <= 6; what++) {
            Due.due("state(" + what + ")", x.state(what), 0);
        }
        Due.due("state(7)", x.state(7), 20);
        x.begin(0, -1);
        Due.due("state(7)", x.state(7), 20);
        x.step(100);
        x.feed(1, 1, 1, 1, 1);
        Due.due("state(7)", x.state(7), 40);
        x.keep(0, 7);
        Due.due("state(7)", x.state(7), 0);
    }

    private static void statesOfARun() {
        Due.says("1 the PLACE, 2 steps done since it began, 3 values on the pile, 4 FRAMES, 5 words of OUTPUT, 6 bytes of "
            + "INPUT that were taken,");
        SelfHouse x = Due.begun("def main() { put get; put get + f(get); put get; } def f(a) { return a; }", "abcd");
        String[] want = {"0 0 0 1 0 0", "1 1 1 1 0 1", "2 2 0 1 1 1", "3 3 1 1 1 2", "4 4 2 1 1 3", "13 5 1 2 1 3",
            "15 6 2 2 1 3", "6 7 2 1 1 3", "7 8 1 1 1 3", "8 9 0 1 2 3", "9 10 1 1 2 4", "10 11 0 1 3 4",
            "12 12 1 1 3 4", "13 13 1 0 3 4"};
        for (int i = 0; i < want.length; i++) {
            Due.due("states after " + i + " steps", states(x), want[i]);
            Due.due("step(1)", x.step(1), i < want.length - 1 ? 1 : 0);
        }
        Due.due("states at the end", states(x), want[want.length - 1]);
        x.begin(0, 1);
        Due.due("states begun anew", states(x), want[0]);
    }

    private static void otherStates() {
        Due.says("NONE for others.");
        SelfHouse x = Due.house("def main() { put 1; }");
        for (int what : new int[] {-1, 8, 9, MIN, MAX}) {
            Due.due("state(" + what + "), not begun", x.state(what), -1);
        }
        x.begin(0, -1);
        x.step(2);
        for (int what : new int[] {-1, 8, 9, MIN, MAX}) {
            Due.due("state(" + what + ")", x.state(what), -1);
        }
    }

    private static void tops() {
        Due.says("`int top(int k)`: The value that has k others above it on the pile; 0 when there is none such.");
        SelfHouse x = begun(0, 11, 0, 12, 0, 13, 22, 22, 22, 26);
        int[] values = {0, 1, 2, 3, 2, 1, 0};
        for (int i = 0; i < values.length; i++) {
            for (int k = 0; k <= 3; k++) {
                Due.due("top(" + k + ") of " + values[i], x.top(k), k < values[i] ? 10 + values[i] - k : 0);
            }
            for (int k : new int[] {-1, -2, 4, 1999, 2000, MIN, MAX}) {
                Due.due("top(" + k + ") of " + values[i], x.top(k), 0);
            }
            x.step(1);
        }
        x = piled(2000, 26);
        Due.due("top(0)", x.top(0), 3);
        Due.due("top(1)", x.top(1), 1);
        Due.due("top(1999)", x.top(1999), 1);
        Due.due("top(2000)", x.top(2000), 0);
        Due.due("top(-1)", x.top(-1), 0);
        // those of other FRAMES are on the pile, too
        x = stepped(3, begun(0, new int[][] {proc(0, 0, 0), proc(5, 0, 0)}, 0, 8, 21, 1, 26, 0, 9, 26));
        Due.due("top(0)", x.top(0), 9);
        Due.due("top(1)", x.top(1), 8);
        Due.due("top(0), not begun", new SelfHouse().top(0), 0);
    }

    private static void words() {
        Due.says("`int memory(int a)`: Word a of MEMORY; 0 when there is none such.");
        SelfHouse x = stepped(4, begun(3, new int[][] {proc(0, 0, 0)}, 0, 7, 4, 0, 0, MIN, 4, 2, 26));
        Due.due("memory(0)", x.memory(0), 7);
        Due.due("memory(1)", x.memory(1), 0);
        Due.due("memory(2)", x.memory(2), MIN);
        for (int a : new int[] {-1, 3, 4, 19999, 20000, MIN, MAX}) {
            Due.due("memory(" + a + ")", x.memory(a), 0);
        }
        // words that a MEMORY had which was larger are none of a smaller one
        x = stepped(2, begun(20000, new int[][] {proc(0, 0, 0)}, 0, 7, 4, 19999, 26));
        Due.due("memory(19999)", x.memory(19999), 7);
        x.poke(0, 2, 0);
        x.begin(0, -1);
        Due.due("memory(19999)", x.memory(19999), 0);
        Due.due("memory(0)", x.memory(0), 0);
        Due.due("memory(0), not begun", new SelfHouse().memory(0), 0);
    }

    private static void owns() {
        Due.says("`int own(int k)`: OWN word k (0 .. 19) of the latest FRAME; 0 when there is none such.");
        int[] words = {};
        for (int k = 0; k < 20; k++) {
            words = join(words, new int[] {0, 50 + k, 2, k});
        }
        SelfHouse x = begun(0, new int[][] {proc(0, 0, 20), proc(83, 0, 20)},
            join(words, new int[] {21, 1, 26, 0, 9, 2, 0, 0, 5, 23}));
        stepped(40, x);
        for (int k = 0; k < 20; k++) {
            Due.due("own(" + k + ")", x.own(k), 50 + k);
        }
        for (int k : new int[] {-1, 20, 21, MIN, MAX}) {
            Due.due("own(" + k + ")", x.own(k), 0);
        }
        stepped(1, x);
        for (int k = -20; k < 40; k++) {
            Due.due("own(" + k + ") of the new FRAME", x.own(k), 0);
        }
        stepped(2, x);
        Due.due("own(0)", x.own(0), 9);
        Due.due("own(1)", x.own(1), 0);
        stepped(2, x);
        Due.due("own(0), main's", x.own(0), 50);
        Due.due("own(19), main's", x.own(19), 69);
        // own names that the proc has not are words that are 0
        x = stepped(2, begun(0, new int[][] {proc(0, 0, 1)}, 0, 5, 2, 0, 26));
        Due.due("own(0)", x.own(0), 5);
        Due.due("own(1)", x.own(1), 0);
        Due.due("own(19)", x.own(19), 0);
        // no FRAME is left
        x = stepped(4, begun(0, 5, 2, 0, 0, 5, 23));
        Due.due("own(0) without FRAMES", x.own(0), 0);
        Due.due("own(0), not begun", new SelfHouse().own(0), 0);
    }

    private static void outputs() {
        Due.says("`int output(int i)`: Word i of OUTPUT; 0 when there is none.");
        SelfHouse x = stepped(4, begun(0, MIN, 24, 0, MAX, 24, 26));
        Due.due("output(0)", x.output(0), MIN);
        Due.due("output(1)", x.output(1), MAX);
        for (int i : new int[] {-1, 2, 3, 7999, 8000, MIN, MAX}) {
            Due.due("output(" + i + ")", x.output(i), 0);
        }
        x.begin(0, -1);
        Due.due("output(0), begun anew", x.output(0), 0);
        x.step(2);
        Due.due("output(0)", x.output(0), MIN);
        Due.due("output(1)", x.output(1), 0);
        x = putOut(8000, 26);
        Due.due("output(7999)", x.output(7999), 7);
        Due.due("output(8000)", x.output(8000), 0);
        Due.due("output(-1)", x.output(-1), 0);
        Due.due("output(0), not begun", new SelfHouse().output(0), 0);
    }

    private static void takes() {
        Due.says("`int take(int d)`: OUTPUT becomes CODE d: how many words.");
        for (int d = 0; d <= 5; d++) {
            SelfHouse x = new SelfHouse();
            x.self(0);
            x.compile(0, d);
            Due.lay(x, (d + 1) % 6, code(0, new int[][] {proc(0, 0, 0)}, 0, 5, 24, 0, MIN, 24, 26));
            x.begin((d + 1) % 6, -1);
            String machine = Seen.machine(x);
            Due.due("take(" + d + "), no OUTPUT", x.take(d), 0);
            Due.due("size(" + d + ")", x.size(d), 0);
            Due.due("what can be seen of the machine", Seen.machine(x), machine);
            x.step(3);
            Due.due("take(" + d + ")", x.take(d), 1);
            Due.due("words", Due.words(x, d), "5");
            x.step(9);
            Due.due("words are as they were", Due.words(x, d), "5");
            Due.due("take(" + d + ")", x.take(d), 2);
            Due.due("words", Due.words(x, d), "5 " + MIN);
            Due.due("take(" + d + ") once more", x.take(d), 2);
            Due.due("word(" + d + ", 2)", x.word(d, 2), 0);
            Due.due("state(5)", x.state(5), 2);
            x.poke(d, 0, 9);
            Due.due("output(0)", x.output(0), 5);
        }
        SelfHouse x = putOut(8000, 26);
        Due.due("take(5)", x.take(5), 8000);
        Due.due("word(5, 7999)", x.word(5, 7999), 7);
        x = begun(0, new int[][] {proc(9, 0, 0)}, 26);
        Due.due("take(0) of what was over at once", x.take(0), 0);
        Due.due("size(0)", x.size(0), 0);
    }

    private static void takeRefuses() {
        Due.says("NONE when there is no such CODE, or the machine has not begun.");
        SelfHouse x = Due.house("def main() { put 1; }");
        String before = Seen.all(x);
        for (int d = -1; d <= 6; d++) {
            Due.due("take(" + d + "), not begun", x.take(d), -1);
        }
        Due.due("all that can be seen", Seen.all(x), before);
        x.begin(0, -1);
        x.step(2);
        before = Seen.all(x);
        for (int d : NO_CODES) {
            Due.due("take(" + d + ")", x.take(d), -1);
        }
        Due.due("all that can be seen", Seen.all(x), before);
        Due.due("take(0)", x.take(0), 1);
        Due.due("take(5)", x.take(5), 1);
    }
}
