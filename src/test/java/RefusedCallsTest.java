import java.util.ArrayList;
import java.util.List;

/** A call that is refused changes nothing: of two houses one is asked for it, and both go on alike. */
public final class RefusedCallsTest {
    private static final int MIN = Integer.MIN_VALUE;
    private static final int MAX = Integer.MAX_VALUE;
    private static final String PROGRAM = "var v; var w[3]; def f(a, b) { put get; v = v + a; w[a] = b; let c = a * b;"
        + " if a < 2 { put c + 10 * f(a + 1, b + 3); } put v; return c - get; } def main() { let m = 4; put m + f(0, m); }";

    private interface Call {
        int of(SelfHouse x);
    }

    private static final class Named {
        final String name;
        final int want;
        final Call call;

        Named(String name, int want, Call call) {
            this.name = name;
            this.want = want;
            this.call = call;
        }
    }

    public static void main(String[] args) {
        Due.says("A call that is refused changes nothing. All memory is the class's own.");
        for (int stage = 0; stage <= 5; stage++) {
            for (Named named : refusedIn(stage)) {
                twins(stage, named, true);
            }
            for (Named named : questions()) {
                twins(stage, named, false);
            }
        }
        Due.end();
    }

    /** 0 new, 1 with TEXTS and CODES, 2 the machine at work, 3 ENDED, 4 over, 5 the TAPE full. */
    private static SelfHouse house(int stage) {
        SelfHouse x = new SelfHouse();
        if (stage == 0) {
            return x;
        }
        Due.put(x, 0, PROGRAM);
        x.compile(0, 0);
        x.compile(0, 5);
        x.self(3);
        x.compile(3, 1);
        Due.put(x, 1, "abcdefgh");
        Due.put(x, 2, "def main() { put 1 }");
        x.compile(2, 5);
        for (int d = 3; d <= 4; d++) {
            x.compile(0, d);
            x.poke(d, d, -1);
        }
        if (stage >= 2) {
            x.begin(0, 1);
            x.step(stage == 3 ? 1000000 : 40);
        }
        if (stage == 4) {
            x.poke(5, 2, 1);
            x.begin(5, 1);
            x.step(1000000);
        }
        for (int i = 1; i <= (stage == 5 ? 400 : 2); i++) {
            x.feed(i, i, i, i, i);
        }
        return x;
    }

    private static void twins(int stage, Named named, boolean refused) {
        SelfHouse x = house(stage);
        SelfHouse twin = house(stage);
        String shown = named.name + " in stage " + stage;
        int got = named.call.of(x);
        if (refused) {
            Due.due(shown, got, named.want);
        }
        Due.due("all that can be seen behind " + shown, Seen.all(x), Seen.all(twin));
        Due.due("step(17) behind " + shown, x.step(17), twin.step(17));
        Due.due("all that can be seen behind 17 steps and " + shown, Seen.all(x), Seen.all(twin));
        Due.due("step(1000000) behind " + shown, x.step(1000000), twin.step(1000000));
        int tape = x.state(7);
        Due.due("keep behind " + shown, x.keep(2, tape), twin.keep(2, tape));
        Due.due("take behind " + shown, x.take(2), twin.take(2));
        Due.due("compile behind " + shown, x.compile(0, 4), twin.compile(0, 4));
        Due.due("begin behind " + shown, x.begin(4, 2), twin.begin(4, 2));
        Due.due("step(50) behind " + shown, x.step(50), twin.step(50));
        Due.due("all that can be seen at the end behind " + shown, Seen.all(x), Seen.all(twin));
    }

    private static List<Named> refusedIn(int stage) {
        List<Named> all = new ArrayList<>();
        refusedOfTexts(all, stage);
        refusedOfCodes(all);
        for (int n : new int[] {-1, 1000001, MIN, MAX}) {
            all.add(new Named("step(" + n + ")", -1, x -> x.step(n)));
        }
        for (int d : new int[] {-1, 6, MIN, MAX}) {
            all.add(new Named("take(" + d + ")", -1, x -> x.take(d)));
        }
        if (stage == 5) {
            all.add(new Named("feed", -1, x -> x.feed(9, 9, 9, 9, 9)));
        }
        if (stage <= 1) {
            all.add(new Named("step(0)", -1, x -> x.step(0)));
            all.add(new Named("step(5)", -1, x -> x.step(5)));
            all.add(new Named("take(0)", -1, x -> x.take(0)));
            all.add(new Named("take(5)", -1, x -> x.take(5)));
        }
        return all;
    }

    private static void refusedOfTexts(List<Named> all, int stage) {
        int tape = stage == 0 ? 0 : stage == 5 ? 8000 : 40;
        int[][] keeps = {{-1, 0}, {4, 0}, {-1, 1}, {4, tape}, {0, -1}, {3, -1}, {0, tape + 1}, {3, tape + 1}, {0, MIN}, {1, MAX},
            {MIN, 0}, {MAX, 0}};
        for (int[] k : keeps) {
            all.add(new Named("keep(" + k[0] + ", " + k[1] + ")", -1, x -> x.keep(k[0], k[1])));
        }
        for (int s : new int[] {-1, 4, MIN, MAX}) {
            all.add(new Named("self(" + s + ")", -1, x -> x.self(s)));
            all.add(new Named("compile(" + s + ", 0)", -1, x -> x.compile(s, 0)));
            if (s != -1) {
                all.add(new Named("begin(0, " + s + ")", 0, x -> x.begin(0, s) ? 1 : 0));
            }
        }
        all.add(new Named("begin(0, -2)", 0, x -> x.begin(0, -2) ? 1 : 0));
    }

    private static void refusedOfCodes(List<Named> all) {
        for (int d : new int[] {-1, 6, MIN, MAX}) {
            all.add(new Named("compile(0, " + d + ")", -1, x -> x.compile(0, d)));
            all.add(new Named("compile(3, " + d + ")", -1, x -> x.compile(3, d)));
            all.add(new Named("poke(" + d + ", 0, 1)", 0, x -> x.poke(d, 0, 1) ? 1 : 0));
            all.add(new Named("begin(" + d + ", 0)", 0, x -> x.begin(d, 0) ? 1 : 0));
        }
        // 2 is empty, 3 and 4 have not the FORM
        for (int d = 2; d <= 4; d++) {
            int code = d;
            all.add(new Named("begin(" + d + ", 0)", 0, x -> x.begin(code, 0) ? 1 : 0));
            all.add(new Named("begin(" + d + ", -1)", 0, x -> x.begin(code, -1) ? 1 : 0));
        }
        all.add(new Named("poke(2, 0, 1)", 0, x -> x.poke(2, 0, 1) ? 1 : 0));
        for (int i : new int[] {-1, 8000, MIN, MAX}) {
            all.add(new Named("poke(0, " + i + ", 1)", 0, x -> x.poke(0, i, 1) ? 1 : 0));
        }
        all.add(new Named("poke behind CODE 0", 0, x -> x.poke(0, x.size(0), 1) ? 1 : 0));
    }

    /** What is only asked changes nothing either, whatever the answer is. */
    private static List<Named> questions() {
        List<Named> all = new ArrayList<>();
        for (int i : new int[] {-2, -1, 0, 1, 5, 6, 8, 20, 2000, 8000, 20000, MIN, MAX}) {
            all.add(new Named("questions with " + i, 0, x -> {
                int sum = x.fault(i) + x.size(i) + x.state(i) + x.top(i) + x.memory(i) + x.own(i) + x.output(i);
                for (int k : new int[] {-1, 0, 3, 4, 5, 6}) {
                    sum += x.text(k, i) + x.word(k, i) + x.differ(k, i) + x.differ(i, k) + x.text(i, k) + x.word(i, k);
                }
                return sum;
            }));
        }
        all.add(new Named("step(0)", 0, x -> x.step(0)));
        return all;
    }
}
