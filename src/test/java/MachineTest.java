/** Promises 13 to 19: the steps, the outcomes, and what can be seen of the machine. */
public final class MachineTest {
    private static final int MIN = Integer.MIN_VALUE;
    private static final int MAX = Integer.MAX_VALUE;

    public static void main(String[] args) {
        numbersOfSteps();
        theStatesOfARun();
        reckoning();
        memoryAndOwnWords();
        input();
        calls();
        theEnd();
        badCode();
        badNumbers();
        badCalls();
        stack();
        index();
        zero();
        deep();
        outputIsFull();
        theFirstOutcomeIsTold();
        wrongQuestions();
        taken();
        Due.end();
    }

    private static void numbersOfSteps() {
        SelfHouse x = Due.house("def main() { while 1 { } }");
        Due.due("step(0), not begun", x.step(0), -1);
        x.begin(0, -1);
        for (int n : new int[] {-1, 1000001, MIN, MAX}) {
            Due.due("step(" + n + ")", x.step(n), -1);
        }
        Due.due("step(0)", x.step(0), 0);
        Due.due("state(2)", x.state(2), 0);
        Due.due("step(7)", x.step(7), 7);
        Due.due("step(1000000)", x.step(1000000), 1000000);
        Due.due("state(2)", x.state(2), 1000007);
        Due.due("state(0)", x.state(0), 1);
        x.begin(0, -1);
        Due.due("state(2)", x.state(2), 0);
    }

    /** The states 0 to 6, with blanks between them. */
    private static String states(SelfHouse x) {
        StringBuilder all = new StringBuilder();
        for (int what = 0; what < 7; what++) {
            all.append(what == 0 ? "" : " ").append(x.state(what));
        }
        return all.toString();
    }

    private static void theStatesOfARun() {
        SelfHouse x = Due.begun("var v; def main() { v = get + 2; put f(v, 5); } def f(a, b) { return a * b; }", "A");
        String[] want = {
            "1 0 0 0 1 0 0", "1 1 1 1 1 0 1", "1 3 2 2 1 0 1", "1 4 3 1 1 0 1", "1 6 4 0 1 0 1", "1 8 5 1 1 0 1",
            "1 10 6 2 1 0 1", "1 16 7 0 2 0 1", "1 18 8 1 2 0 1", "1 20 9 2 2 0 1", "1 21 10 1 2 0 1",
            "1 12 11 1 1 0 1", "1 13 12 0 1 1 1", "1 15 13 1 1 1 1", "2 16 14 1 0 1 1"
        };
        for (int i = 0; i < want.length; i++) {
            Due.due("states after " + i + " steps", states(x), want[i]);
            if (i == 2) {
                Due.due("top(0)", x.top(0), 2);
                Due.due("top(1)", x.top(1), 65);
                Due.due("top(2)", x.top(2), 0);
            }
            if (i == 7) {
                Due.due("own(0)", x.own(0), 67);
                Due.due("own(1)", x.own(1), 5);
                Due.due("own(2)", x.own(2), 0);
            }
            Due.due("step(1)", x.step(1), i < want.length - 1 ? 1 : 0);
        }
        Due.due("outputs", Due.outputs(x), "335");
        Due.due("top(0)", x.top(0), 0);
        Due.due("memory(0)", x.memory(0), 67);
        Due.due("state(7)", x.state(7), 0);
        x.feed(1, 2, 3, 4, 5);
        Due.due("state(7)", x.state(7), 20);
    }

    private static void binary(int op, int a, int b, int want) {
        SelfHouse x = Due.coded(0, 0, 0, 0, a, 0, b, op, 26);
        x.begin(0, -1);
        Due.due("step", x.step(9), 4);
        Due.due(a + " " + op + " " + b, x.top(0), want);
        Due.due("state(3)", x.state(3), 1);
    }

    private static void reckoning() {
        int[][] rows = {
            {7, 2, 3, 5}, {7, MAX, 1, MIN}, {8, 2, 3, -1}, {8, MIN, 1, MAX}, {9, 7, -6, -42},
            {9, 65536, 65536, 0}, {9, MIN, -1, MIN}, {10, 7, 2, 3}, {10, -7, 2, -3}, {10, 7, -2, -3},
            {10, MIN, -1, MIN}, {10, 0, 5, 0}, {10, 7, 1, 7}, {10, 7, -1, -7},
            {11, 7, 1, 0}, {11, 7, 3, 1}, {11, -7, 3, -1}, {11, 7, -3, 1}, {11, MIN, -1, 0},
            {11, MIN, MAX, -1}, {13, 4, 4, 1}, {13, 4, 5, 0}, {14, 4, 4, 0}, {14, 4, 5, 1}, {15, MIN, MAX, 1},
            {15, 4, 4, 0}, {15, 5, 4, 0}, {16, 4, 4, 1}, {16, 5, 4, 0}, {16, 3, 4, 1}, {17, MAX, MIN, 1},
            {17, 4, 4, 0}, {17, 3, 4, 0}, {18, 4, 4, 1}, {18, 3, 4, 0}, {18, 5, 4, 1}
        };
        for (int[] r : rows) {
            binary(r[0], r[1], r[2], r[3]);
        }
        for (int v : new int[] {5, 0, -5, MIN}) {
            SelfHouse x = Due.coded(0, 0, 0, 0, v, 12, 26);
            x.begin(0, -1);
            x.step(3);
            Due.due("- of " + v, x.top(0), -v);
        }
    }

    private static void memoryAndOwnWords() {
        SelfHouse x = Due.coded(4, 0, 20, 0, 11, 4, 0, 0, 12, 4, 3, 0, 2, 0, 13, 6, 0, 3, 0, 14, 2, 0, 0, 15, 2, 19,
            3, 3, 1, 19, 0, 1, 5, 2, 2, 26);
        x.begin(0, -1);
        Due.due("step", x.step(100), 16);
        Due.due("state(0)", x.state(0), 2);
        int[] memory = {11, 0, 13, 12};
        for (int a = 0; a < 4; a++) {
            Due.due("memory(" + a + ")", x.memory(a), memory[a]);
        }
        Due.due("own(0)", x.own(0), 14);
        Due.due("own(1)", x.own(1), 0);
        Due.due("own(19)", x.own(19), 15);
        Due.due("top(0)", x.top(0), 12);
        Due.due("top(1)", x.top(1), 15);
        Due.due("top(2)", x.top(2), 12);
        Due.due("state(3)", x.state(3), 3);
    }

    private static void input() {
        SelfHouse x = Due.begun("def main() { while 1 { put get; } }", "\0\u007f\u0080\u00ff");
        x.step(4 * 20);
        Due.due("outputs", Due.outputs(x).substring(0, 25), "0 127 128 255 -1 -1 -1 -1");
        Due.due("state(6)", x.state(6), 4);
    }

    private static void calls() {
        // f takes the latter two of three values; its own first one is left behind when it returns
        SelfHouse x = new SelfHouse();
        Due.lay(x, 0, 7919, 27, 0, 2, 0, 0, 0, 0, 9, 2, 3, 0, 1, 0, 2, 0, 3, 21, 1, 26, 0, 50, 0, 60, 23, 0, 0);
        x.begin(0, -1);
        Due.due("step(4)", x.step(4), 4);
        Due.due("states", states(x), "1 9 4 1 2 0 0");
        Due.due("own(0)", x.own(0), 2);
        Due.due("own(1)", x.own(1), 3);
        Due.due("own(2)", x.own(2), 0);
        Due.due("step(2)", x.step(2), 2);
        Due.due("top(0)", x.top(0), 60);
        Due.due("top(2)", x.top(2), 1);
        Due.due("state(3)", x.state(3), 3);
        Due.due("step(1)", x.step(1), 1);
        Due.due("states", states(x), "1 8 7 2 1 0 0");
        Due.due("top(0)", x.top(0), 60);
        Due.due("top(1)", x.top(1), 1);
        Due.due("own(0), main's", x.own(0), 0);
        ownWordsAreNewInEachCall();
    }

    private static void ownWordsAreNewInEachCall() {
        SelfHouse x = Due.begun("def f(n) { if n { put n; f(n - 1); } if 0 { let a = 1; } put a; a = 7; put n; }"
            + " def main() { f(2); f(0); }", "");
        x.step(10000);
        Due.due("outputs", Due.outputs(x), "2 1 0 0 0 1 0 2 0 0");
    }

    private static void theEnd() {
        SelfHouse x = Due.coded(0, 0, 1, 0, 5, 0, 6, 23, 0, 0);
        x.begin(0, -1);
        Due.due("step(10)", x.step(10), 3);
        Due.due("states", states(x), "2 5 3 1 0 0 0");
        Due.due("top(0)", x.top(0), 6);
        Due.due("top(1)", x.top(1), 0);
        Due.due("own(0)", x.own(0), 0);
        Due.due("step(10)", x.step(10), 0);
        x = Due.begun("def f(a) { put a + g(a); } def g(b) { stop; } def main() { f(8); put 1; }", "");
        x.step(100);
        Due.due("state(0)", x.state(0), 2);
        Due.due("state(4)", x.state(4), 3);
        Due.due("state(3)", x.state(3), 1);
        Due.due("top(0)", x.top(0), 8);
        Due.due("own(0)", x.own(0), 8);
        Due.due("state(5)", x.state(5), 0);
        Due.due("step(1)", x.step(1), 0);
    }

    /** These words end with that outcome at that place, with so many steps done and values there. */
    private static void over(int outcome, int place, int steps, int values, int... words) {
        SelfHouse x = Due.coded(10, 0, 3, words);
        x.begin(0, -1);
        String shown = java.util.Arrays.toString(words);
        Due.due("step with " + shown, x.step(100000), steps);
        Due.due("state(0) with " + shown, x.state(0), outcome);
        Due.due("state(1) with " + shown, x.state(1), place);
        Due.due("state(2) with " + shown, x.state(2), steps);
        Due.due("state(3) with " + shown, x.state(3), values);
        Due.due("step anew with " + shown, x.step(100000), 0);
    }

    private static void badCode() {
        over(3, 0, 0, 0, 27);
        over(3, 0, 0, 0, -1);
        over(3, 0, 0, 0, MIN);
        over(3, 0, 0, 0, MAX);
        over(3, 2, 1, 1, 0, 5);
        over(3, 0, 0, 0, 0);
        over(3, 2, 1, 1, 0, 5, 0);
        over(3, 2, 1, 1, 0, 5, 5);
        over(3, 2, 1, 1, 0, 5, 5, 0);
        over(3, 4, 2, 2, 0, 5, 0, 5, 6, 0);
        for (int op : new int[] {1, 2, 3, 4, 19, 20, 21}) {
            over(3, 2, 1, 1, 0, 5, op);
        }
    }

    private static void badNumbers() {
        for (int op : new int[] {1, 2}) {
            for (int k : new int[] {3, 20, -1, MIN, MAX}) {
                over(3, 2, 1, 1, 0, 5, op, k, 26);
            }
        }
        for (int op : new int[] {3, 4}) {
            for (int a : new int[] {10, -1, MIN, MAX}) {
                over(3, 2, 1, 1, 0, 5, op, a, 26);
            }
        }
        int[][] rows = {{-1, 1}, {0, -1}, {0, 11}, {10, 1}, {11, 0}, {1, 10}, {MAX, 1}, {1, MAX}, {MAX, MAX}, {MIN, MIN},
            {MIN, 3}, {3, MIN}};
        for (int[] r : rows) {
            over(3, 4, 2, 2, 0, 0, 0, 0, 5, r[0], r[1], 26);
            over(3, 4, 2, 2, 0, 0, 0, 0, 6, r[0], r[1], 26);
        }
        for (int x : new int[] {5, -1, MIN, MAX}) {
            over(3, 2, 1, 1, 0, 5, 19, x, 26);
            over(3, 2, 1, 1, 0, 5, 20, x, 26);
        }
        over(2, 5, 3, 1, 0, 5, 19, 4, 26);
        over(2, 5, 3, 0, 0, 0, 20, 4, 26);
        over(2, 5, 3, 0, 0, 7, 20, 4, 26);
        over(2, 5, 3, 0, 0, 7, 20, 5, 26, 26);
        over(2, 6, 3, 0, 0, 0, 20, 5, 26, 26);
        over(2, 6, 3, 1, 0, 9, 5, 0, 10, 26);
    }

    private static void badCall(int outcome, int entry, int parameters, int owns) {
        SelfHouse x = new SelfHouse();
        Due.lay(x, 0, 7919, 16, 0, 2, 1, entry, parameters, owns, 0, 0, 0, 0, 7, 21, 0, 26);
        x.begin(0, -1);
        String shown = entry + " " + parameters + " " + owns;
        Due.due("step, proc " + shown, x.step(2), outcome == 1 ? 2 : 1);
        Due.due("state(0), proc " + shown, x.state(0), outcome);
        Due.due("state(1), proc " + shown, x.state(1), outcome == 1 ? entry : 2);
        Due.due("state(4), proc " + shown, x.state(4), outcome == 1 ? 2 : 1);
    }

    private static void badCalls() {
        over(3, 0, 0, 0, 21, 1, 26);
        over(3, 0, 0, 0, 21, -1, 26);
        over(3, 0, 0, 0, 21, MAX, 26);
        over(3, 0, 0, 0, 21, 0x55555555, 26);
        // the words of code, taken for those of a second proc, would be a good one
        over(3, 4, 2, 2, 0, 0, 0, 5, 21, 1, 26);
        badCall(1, 4, 1, 1);
        badCall(1, 0, 0, 20);
        badCall(3, 5, 0, 0);
        badCall(3, -1, 0, 0);
        badCall(3, MIN, 0, 0);
        badCall(3, 0, -1, 0);
        badCall(3, 0, 2, 1);
        badCall(3, 0, 0, 21);
        badCall(3, 0, 0, -1);
        badCall(3, 0, MAX, MAX);
        badCall(6, 0, 2, 2);
        badCall(6, 0, 20, 20);
    }

    private static void stack() {
        for (int op : new int[] {2, 4, 20}) {
            over(6, 0, 0, 0, op, 0, 26);
        }
        for (int op : new int[] {12, 22, 23, 24, 7, 8, 9, 10, 11, 13, 14, 15, 16, 17, 18}) {
            over(6, 0, 0, 0, op, 26);
        }
        for (int op : new int[] {7, 8, 9, 10, 11, 13, 14, 15, 16, 17, 18}) {
            over(6, 2, 1, 1, 0, 5, op, 26);
        }
        over(6, 0, 0, 0, 5, 0, 10, 26);
        over(6, 0, 0, 0, 6, 0, 10, 26);
        over(6, 2, 1, 1, 0, 5, 6, 0, 10, 26);
        over(6, 0, 4000, 2000, 0, 5, 19, 0);
        over(6, 0, 4000, 2000, 1, 0, 19, 0);
        over(6, 0, 4000, 2000, 3, 0, 19, 0);
        over(6, 0, 4000, 2000, 25, 19, 0);
        valuesOfAnotherFrame();
        fullPilesThatGoOn();
    }

    private static void valuesOfAnotherFrame() {
        SelfHouse x = new SelfHouse();
        Due.lay(x, 0, 7919, 17, 0, 2, 0, 0, 0, 0, 5, 0, 0, 0, 9, 21, 1, 26, 22, 26);
        Due.due("poke", x.poke(0, 1, 18), true);
        x.begin(0, -1);
        Due.due("step", x.step(9), 2);
        Due.due("states", states(x), "6 5 2 1 2 0 0");
        Due.due("top(0)", x.top(0), 9);
    }

    /** What takes as many as it puts can be done on a full pile. */
    private static void fullPilesThatGoOn() {
        // memory 0 counts the values; behind 1998 of them two more are put, then 12 and 5 are done, and 0 is not
        SelfHouse x = Due.coded(10, 0, 0, 0, 3, 3, 0, 0, 1, 7, 4, 0, 3, 0, 0, 1998, 13, 20, 0,
            0, 3, 0, 3, 12, 12, 5, 0, 10, 0, 1);
        x.begin(0, -1);
        x.step(1000000);
        Due.due("state(0)", x.state(0), 6);
        Due.due("state(1)", x.state(1), 25);
        Due.due("state(3)", x.state(3), 2000);
        Due.due("top(0)", x.top(0), 0);
        Due.due("top(1)", x.top(1), 3);
        Due.due("top(1999)", x.top(1999), 3);
        Due.due("top(2000)", x.top(2000), 0);
        fullPile(2, 21, 26, 26);
        fullPile(2, 21, 23, 26);
        fullPile(1, 0, 21, 1);
        fullPile(1, 20, 19, 20);
        fullPile(1, 22, 20, 22, 26);
        fullPile(1, 22, 4, 1, 26);
        fullPile(1, 21, 7, 26);
        fullPile(1, 21, 24, 26);
        fullPile(6, 20, 25, 26);
    }

    /** With 2000 values there one step of these words, which begin at 20, is done, or is STACK. */
    private static void fullPile(int outcome, int place, int... words) {
        int[] filling = {0, 1, 3, 0, 0, 1, 7, 4, 0, 3, 0, 0, 1998, 13, 20, 0, 0, 1, 0, 1};
        int[] all = java.util.Arrays.copyOf(new int[] {7919, 31 + words.length, 2, 2, 0, 0, 0, 0, 0, 0, 0}, 31 + words.length);
        System.arraycopy(filling, 0, all, 11, 20);
        System.arraycopy(words, 0, all, 31, words.length);
        SelfHouse x = new SelfHouse();
        Due.lay(x, 0, all);
        x.begin(0, -1);
        x.step(9 * 1998 + 2);
        String shown = java.util.Arrays.toString(words) + " on a full pile";
        Due.due("state(3) ahead of " + shown, x.state(3), 2000);
        Due.due("step(1) of " + shown, x.step(1), outcome == 6 ? 0 : 1);
        Due.due("state(0) of " + shown, x.state(0), outcome);
        Due.due("state(1) of " + shown, x.state(1), place);
    }

    private static void index() {
        for (int i : new int[] {-1, 3, 4, MIN, MAX}) {
            over(4, 2, 1, 1, 0, i, 5, 2, 3, 26);
            over(4, 4, 2, 2, 0, i, 0, 1, 6, 2, 3, 26);
        }
        over(4, 2, 1, 1, 0, 0, 5, 10, 0, 26);
        over(2, 6, 3, 1, 0, 2, 5, 2, 3, 26);
        over(2, 8, 4, 0, 0, 0, 0, 99, 6, 2, 3, 26);
    }

    private static void zero() {
        over(5, 4, 2, 2, 0, 7, 0, 0, 10, 26);
        over(5, 4, 2, 2, 0, 7, 0, 0, 11, 26);
        over(2, 6, 4, 1, 0, 0, 0, 7, 10, 26);
    }

    private static void deep() {
        SelfHouse x = Due.begun("def f(n) { f(n + 1); } def main() { f(2); }", "");
        x.step(100000);
        Due.due("state(0)", x.state(0), 7);
        Due.due("state(4)", x.state(4), 250);
        Due.due("own(0)", x.own(0), 250);
        Due.due("state(3)", x.state(3), 1);
        Due.due("top(0)", x.top(0), 251);
        Due.due("state(1)", x.state(1), 5);
        x = Due.begun("def f(n) { if n { return 1 + f(n - 1); } } def main() { put f(248); }", "");
        x.step(100000);
        Due.due("state(0)", x.state(0), 2);
        Due.due("outputs", Due.outputs(x), "248");
    }

    private static void outputIsFull() {
        SelfHouse x = Due.begun("var i; def main() { while 1 { i = i + 1; put i; } }", "");
        x.step(1000000);
        Due.due("state(0)", x.state(0), 8);
        Due.due("state(5)", x.state(5), 8000);
        Due.due("output(0)", x.output(0), 1);
        Due.due("output(7999)", x.output(7999), 8000);
        Due.due("output(8000)", x.output(8000), 0);
        Due.due("top(0)", x.top(0), 8001);
        Due.due("state(3)", x.state(3), 1);
        Due.due("memory(0)", x.memory(0), 8001);
        Due.due("take(4)", x.take(4), 8000);
        Due.due("word(4, 7999)", x.word(4, 7999), 8000);
    }

    private static void theFirstOutcomeIsTold() {
        over(3, 0, 0, 0, 2, 3, 26);
        over(3, 0, 0, 0, 4, 10, 26);
        over(3, 0, 0, 0, 5, 0, 11, 26);
        over(3, 0, 0, 0, 20, 9, 26);
        over(6, 2, 1, 1, 0, 0, 10, 26);
        over(6, 2, 1, 1, 0, 77, 6, 0, 3, 26);
        stackComesAheadOfDeep(1, 6);
        stackComesAheadOfDeep(0, 7);
        outputTroubleComesLast();
    }

    /** In the 250th frame a proc is called, with no values there. */
    private static void stackComesAheadOfDeep(int parameters, int outcome) {
        SelfHouse x = new SelfHouse();
        Due.lay(x, 0, 7919, 34, 1, 3, 0, 0, 0, 0, 2, 0, 0, 0, parameters, 1,
            21, 1, 3, 0, 0, 1, 7, 4, 0, 3, 0, 0, 249, 13, 20, 18, 21, 2, 21, 1);
        x.begin(0, -1);
        x.step(10000);
        Due.due("state(0)", x.state(0), outcome);
        Due.due("state(1)", x.state(1), 16);
        Due.due("state(4)", x.state(4), 250);
    }

    private static void outputTroubleComesLast() {
        SelfHouse x = Due.coded(1, 0, 0, 0, 1, 24, 3, 0, 0, 1, 7, 4, 0, 3, 0, 0, 8000, 13, 20, 0, 24);
        x.begin(0, -1);
        x.step(1000000);
        Due.due("state(5)", x.state(5), 8000);
        Due.due("state(0), STACK ahead of OUTPUT", x.state(0), 6);
    }

    private static void wrongQuestions() {
        SelfHouse x = Due.begun("var v; def main() { v = 1; let a = 2; put 3; let b = 4 + f(); } def f() { stop; }", "q");
        x.step(100);
        for (int i : new int[] {-1, -2, MIN, MAX, 20000, 8000}) {
            Due.due("top(" + i + ")", x.top(i), 0);
            Due.due("memory(" + i + ")", x.memory(i), 0);
            Due.due("own(" + i + ")", x.own(i), 0);
            Due.due("output(" + i + ")", x.output(i), 0);
            Due.due("state(" + i + ")", x.state(i), -1);
        }
        Due.due("state(8)", x.state(8), -1);
        ownWordsOfTheLatestFrameAlone();
        Due.due("top(1)", x.top(1), 0);
        Due.due("memory(1)", x.memory(1), 0);
        Due.due("own(20)", x.own(20), 0);
        Due.due("output(1)", x.output(1), 0);
        Due.due("output(0)", x.output(0), 3);
        Due.due("memory(0)", x.memory(0), 1);
        Due.due("top(0)", x.top(0), 4);
    }

    private static void ownWordsOfTheLatestFrameAlone() {
        StringBuilder text = new StringBuilder("def f() { stop; } def main() { ");
        for (int k = 0; k < 20; k++) {
            text.append("let ").append(Due.name("k", k)).append(" = 7; ");
        }
        SelfHouse x = Due.begun(text.append("f(); }").toString(), "");
        Due.due("step(40)", x.step(40), 40);
        for (int k = 0; k < 20; k++) {
            Due.due("own(" + k + ")", x.own(k), 7);
        }
        Due.due("step(2)", x.step(2), 2);
        for (int k = -20; k < 40; k++) {
            Due.due("own(" + k + ")", x.own(k), 0);
        }
    }

    private static void taken() {
        SelfHouse x = Due.house("def main() { put 5; put -6; put 7; }");
        for (int d = -1; d < 7; d++) {
            Due.due("take(" + d + "), not begun", x.take(d), -1);
        }
        Due.due("size(0)", x.size(0), 21);
        x.begin(0, -1);
        x.step(5);
        for (int d : new int[] {-1, 6, MIN, MAX}) {
            Due.due("take(" + d + ")", x.take(d), -1);
        }
        Due.due("take(2)", x.take(2), 2);
        Due.due("words", Due.words(x, 2), "5 -6");
        Due.due("state(5)", x.state(5), 2);
        x.step(100);
        Due.due("words", Due.words(x, 2), "5 -6");
        Due.due("take(0)", x.take(0), 3);
        Due.due("words", Due.words(x, 0), "5 -6 7");
        Due.due("word(0, 3)", x.word(0, 3), 0);
        Due.due("output(2)", x.output(2), 7);
        Due.due("state(0)", x.state(0), 2);
        x.compile(0, 0);
        x.begin(0, -1);
        Due.due("take(2)", x.take(2), 0);
        Due.due("size(2)", x.size(2), 0);
    }
}
