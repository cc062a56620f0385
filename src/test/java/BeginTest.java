/** Promise 12: begin, the FORM, and the call of main. */
public final class BeginTest {
    public static void main(String[] args) {
        theForm();
        theEdgesOfTheForm();
        noSuchCodeOrText();
        aRefusedBeginChangesNothing();
        theCallOfMain();
        beginsAnew();
        endsAnewBehindManyFrames();
        codeAndInputAreCopies();
        Due.end();
    }

    private static void formed(boolean want, int... words) {
        SelfHouse x = new SelfHouse();
        Due.lay(x, 1, words);
        Due.due("begin with " + java.util.Arrays.toString(words), x.begin(1, -1), want);
    }

    private static void theForm() {
        formed(true, 7919, 9, 0, 1, 0, 0, 0, 0, 26);
        formed(false);
        formed(false, 7919);
        formed(false, 7919, 4, 0, 1);
        formed(false, 7919, 5, 0, 0, 0);
        formed(false, 7919, 5, 0, 1, 0);
        formed(false, 7919, 7, 0, 1, 0, 0, 0);
        formed(true, 7919, 8, 0, 1, 0, 0, 0, 0);
        formed(false, 7918, 9, 0, 1, 0, 0, 0, 0, 26);
        formed(false, -7919, 9, 0, 1, 0, 0, 0, 0, 26);
        formed(false, 7919, 8, 0, 1, 0, 0, 0, 0, 26);
        formed(false, 7919, 10, 0, 1, 0, 0, 0, 0, 26);
        formed(false, 7919, -1, 0, 1, 0, 0, 0, 0, 26);
    }

    private static void theEdgesOfTheForm() {
        formed(true, 7919, 9, 20000, 1, 0, 0, 0, 0, 26);
        formed(false, 7919, 9, 20001, 1, 0, 0, 0, 0, 26);
        formed(false, 7919, 9, -1, 1, 0, 0, 0, 0, 26);
        formed(false, 7919, 9, Integer.MIN_VALUE, 1, 0, 0, 0, 0, 26);
        formed(false, 7919, 9, 0, -1, 0, 0, 0, 0, 26);
        formed(false, 7919, 9, 0, 0, 0, 0, 0, 0, 26);
        formed(false, 7919, 9, 0, 0, -1, 0, 0, 0, 26);
        formed(false, 7919, 9, 0, 2, 0, 0, 0, 0, 26);
        formed(false, 7919, 9, 0, Integer.MAX_VALUE, 0, 0, 0, 0, 26);
        formed(false, 7919, 9, 0, 0x60000000, 0, 0, 0, 0, 26);
        formed(false, 7919, 9, 0, Integer.MIN_VALUE, 0, 0, 0, 0, 26);
        formed(false, 7919, 9, 0, 1, -1, 0, 0, 0, 26);
        formed(false, 7919, 9, 0, 1, 1, 0, 0, 0, 26);
        formed(false, 7919, 9, 0, 1, Integer.MAX_VALUE, 0, 0, 0, 26);
        int[] many = new int[5 + 3 * 61 + 1];
        many[0] = 7919;
        many[1] = many.length;
        many[3] = 60;
        many[4] = 59;
        formed(true, many);
        many[3] = 61;
        formed(false, many);
    }

    private static void noSuchCodeOrText() {
        SelfHouse x = Due.house("def main() { put get; }");
        for (int d : new int[] {-1, 6, Integer.MIN_VALUE, Integer.MAX_VALUE}) {
            Due.due("begin(" + d + ", 0)", x.begin(d, 0), false);
        }
        for (int s : new int[] {-2, 4, Integer.MIN_VALUE, Integer.MAX_VALUE}) {
            Due.due("begin(0, " + s + ")", x.begin(0, s), false);
        }
        Due.due("state(0)", x.state(0), 0);
        Due.due("begin(1, 0), an empty code", x.begin(1, 0), false);
        for (int s = 3; s >= 0; s--) {
            Due.due("begin(0, " + s + ")", x.begin(0, s), true);
            x.step(2);
            Due.due("output(0)", x.output(0), s == 0 ? 'd' : -1);
        }
        Due.due("begin(0, -1)", x.begin(0, -1), true);
        x.step(2);
        Due.due("output(0)", x.output(0), -1);
        Due.due("state(6)", x.state(6), 0);
    }

    private static void aRefusedBeginChangesNothing() {
        SelfHouse x = Due.begun("var v; def main() { v = 3; put get; put get; let a = 9; a = a + f(5); } def f(x) { stop; }",
            "xy");
        x.step(100);
        String before = states(x);
        Due.due("begin(3, 0)", x.begin(3, 0), false);
        Due.due("begin(0, 9)", x.begin(0, 9), false);
        x.poke(0, 0, 1);
        Due.due("begin(0, 0)", x.begin(0, 0), false);
        Due.due("states", states(x), before);
    }

    private static String states(SelfHouse x) {
        StringBuilder all = new StringBuilder();
        for (int what = 0; what < 8; what++) {
            all.append(x.state(what)).append(' ');
        }
        return all.append(x.top(0)).append(' ').append(x.memory(0)).append(' ').append(x.own(0)).append(' ')
            .append(Due.outputs(x)).toString();
    }

    private static void mainCall(int outcome, int place, int entry, int parameters, int owns) {
        String shown = "main at " + entry + " with " + parameters + " of " + owns;
        SelfHouse x = new SelfHouse();
        Due.lay(x, 0, 7919, 11, 2, 1, 0, entry, parameters, owns, 0, 5, 26);
        Due.due("begin, " + shown, x.begin(0, -1), true);
        Due.due("state(0), " + shown, x.state(0), outcome);
        Due.due("state(1), " + shown, x.state(1), place);
        Due.due("state(2), " + shown, x.state(2), 0);
        Due.due("state(3), " + shown, x.state(3), 0);
        Due.due("state(4), " + shown, x.state(4), outcome == 1 ? 1 : 0);
        Due.due("state(5), " + shown, x.state(5), 0);
        if (outcome != 1) {
            Due.due("step(5), " + shown, x.step(5), 0);
            Due.due("take(1), " + shown, x.take(1), 0);
        }
    }

    private static void theCallOfMain() {
        mainCall(1, 0, 0, 0, 0);
        mainCall(1, 2, 2, 0, 20);
        mainCall(3, 0, 3, 0, 0);
        mainCall(3, 0, -1, 0, 0);
        mainCall(3, 0, Integer.MAX_VALUE, 0, 0);
        mainCall(3, 0, 0, 0, 21);
        mainCall(3, 0, 0, 0, -1);
        mainCall(3, 0, 0, -1, 0);
        mainCall(3, 0, 0, 1, 0);
        mainCall(6, 0, 2, 1, 1);
        mainCall(6, 0, 0, 20, 20);
        mainCall(3, 0, 0, 21, 21);
    }

    private static void beginsAnew() {
        SelfHouse x = Due.begun("var v; var w[3]; def main() { v = 3; w[2] = 4; put get; put get; f(1, 2); }"
            + " def f(a, b) { let c = 8; put a + b + 1 * f(a, b); }", "xy");
        x.step(100000);
        Due.due("state(0)", x.state(0), 7);
        Due.due("state(4)", x.state(4), 250);
        Due.due("begin(0, 1)", x.begin(0, 1), true);
        Due.due("states", states(x), "1 0 0 0 1 0 0 0 0 0 0 ");
        Due.due("memory(3)", x.memory(3), 0);
        Due.due("own(1)", x.own(1), 0);
        Due.due("step(6)", x.step(6), 6);
        Due.due("states", states(x), "1 12 6 1 1 0 1 0 120 3 0 ");
    }

    private static void endsAnewBehindManyFrames() {
        SelfHouse x = Due.begun("def f(n) { if n { return n + f(n - 1); } return 0; }"
            + " def main() { if get == 'd' { f(1000); } put f(10); put f(3); }", "d");
        x.step(100000);
        Due.due("state(0)", x.state(0), 7);
        Due.due("begin(0, -1)", x.begin(0, -1), true);
        x.step(100000);
        Due.due("state(0)", x.state(0), 2);
        Due.due("outputs", Due.outputs(x), "55 6");
    }

    private static void codeAndInputAreCopies() {
        SelfHouse x = Due.begun("def main() { put get; put get; }", "ab");
        Due.put(x, 1, "xy");
        x.poke(0, 9, 26);
        x.compile(1, 0);
        Due.put(x, 0, "def main() { stop; }");
        x.compile(0, 0);
        x.step(100);
        Due.due("outputs", Due.outputs(x), "97 98");
        Due.due("begin(0, 1)", x.begin(0, 1), true);
        Due.due("step(100)", x.step(100), 1);
    }
}
