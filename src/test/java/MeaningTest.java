import java.util.ArrayList;
import java.util.Arrays;
import java.util.List;
import java.util.Random;

/**
 * Part II, the MEANING: programs made at random are worked out here as they stand, without any code, and must give
 * what the machine gives with the code that the class makes of them.
 */
public final class MeaningTest {
    private static final int ENDED = 2;
    private static final int INDEX = 4;
    private static final int ZERO = 5;

    /** What an E is in the grammar; it stands without brackets where one that is not above it may stand. */
    private static final int E = 0;
    private static final int S = 1;
    private static final int T = 2;
    private static final int F = 3;

    private static final int ITEMS = 4;
    private static final int MOST_OWN = 20;
    private static final String INPUT = "\0k\u00ff zy\n";
    private static final String[] SIGNS = {"*", "/", "%", "+", "-", "==", "!=", "<", "<=", ">", ">="};
    private static final String[] HEADS = {"def f(p, q)", "def g(p)", "def main()"};
    private static final int MAIN = 2;

    /** What ends the whole program. */
    private static final class Over extends RuntimeException {
        private static final long serialVersionUID = 1;
        final int outcome;

        Over(int outcome) {
            super(null, null, false, false);
            this.outcome = outcome;
        }
    }

    /** What ends a def's call. */
    private static final class Given extends RuntimeException {
        private static final long serialVersionUID = 1;
        final int value;

        Given(int value) {
            super(null, null, false, false);
            this.value = value;
        }
    }

    private interface Working {
        int work(int[] own);
    }

    /** How an E is written, and what it gives when it is worked out with the own words of a call. */
    private record Value(int kind, String text, Working working) {
        int work(int[] own) {
            return working.work(own);
        }

        String as(int wanted) {
            return kind >= wanted ? text : "(" + text + ")";
        }
    }

    private interface Doing {
        void work(int[] own);
    }

    private record Line(String text, Doing doing) {
        void work(int[] own) {
            doing.work(own);
        }
    }

    private final Random random;
    private final int[] vars = new int[2];
    private final int[] items = new int[ITEMS];
    private final List<Integer> output = new ArrayList<>();
    private final List<String> ownNames = new ArrayList<>();
    private final Line[] bodies = new Line[HEADS.length];
    private int taken;
    private int depth;
    private int def;

    private MeaningTest(long seed) {
        random = new Random(seed);
    }

    public static void main(String[] args) {
        Due.says("Parts are worked out from the left, then the sign; words wrap");
        int[] outcomes = new int[9];
        for (int seed = 1; seed <= 3000; seed++) {
            outcomes[new MeaningTest(seed).hold()]++;
        }
        System.out.println("outcomes seen: " + Arrays.toString(outcomes));
        for (int outcome : new int[] {ENDED, INDEX, ZERO}) {
            Due.due("programs with outcome " + outcome + " are many", outcomes[outcome] > 300, true);
        }
        Due.end();
    }

    /** Makes a program, holds what it means against what the machine does, and tells its outcome. */
    private int hold() {
        String text = program();
        int outcome = ENDED;
        int given = 0;
        boolean returned = false;
        try {
            given = call(MAIN);
            returned = true;
        } catch (Over over) {
            outcome = over.outcome;
        }
        SelfHouse x = Due.begun(text, INPUT);
        x.step(1000000);
        Due.due("outcome of " + text, x.state(0), outcome);
        Due.due("main came to its end in " + text, x.state(4) == 0, returned);
        Due.due("what main gives in " + text, returned ? x.top(0) : 0, given);
        compare(x, text);
        return outcome;
    }

    private void compare(SelfHouse x, String text) {
        StringBuilder want = new StringBuilder();
        for (int word : output) {
            want.append(want.length() == 0 ? "" : " ").append(word);
        }
        Due.due("OUTPUT of " + text, Due.outputs(x), want.toString());
        Due.due("bytes taken by " + text, x.state(6), taken);
        for (int i = 0; i < vars.length; i++) {
            Due.due("ab".charAt(i) + " behind " + text, x.memory(i), vars[i]);
        }
        for (int i = 0; i < ITEMS; i++) {
            Due.due("v[" + i + "] behind " + text, x.memory(vars.length + i), items[i]);
        }
    }

    private String program() {
        StringBuilder text = new StringBuilder("var a; var b; var v[" + ITEMS + "];\n");
        for (def = 0; def < bodies.length; def++) {
            ownNames.clear();
            for (int k = 0; k < parameters(def); k++) {
                ownNames.add("pq".substring(k, k + 1));
            }
            bodies[def] = lines(5);
            text.append(HEADS[def]).append(" { ").append(bodies[def].text()).append("}\n");
        }
        return text.toString();
    }

    private static int parameters(int which) {
        return MAIN - which;
    }

    private int call(int which, int... given) {
        try {
            bodies[which].work(Arrays.copyOf(given, MOST_OWN));
        } catch (Given back) {
            return back.value;
        }
        return 0;
    }

    private Line lines(int most) {
        List<Line> all = new ArrayList<>();
        StringBuilder text = new StringBuilder();
        depth++;
        for (int n = random.nextInt(most + 1); n > 0; n--) {
            Line line = line();
            all.add(line);
            text.append(line.text()).append(' ');
        }
        depth--;
        return new Line(text.toString(), own -> {
            for (Line line : all) {
                line.work(own);
            }
        });
    }

    private Line line() {
        switch (random.nextInt(depth > 3 ? 8 : 11)) {
            case 0:
                return random.nextInt(6) == 0 ? leaving() : putting();
            case 1:
                return ownNames.size() < MOST_OWN ? let(e()) : putting();
            case 2:
                return setItem(index(), e());
            case 3:
                return setVar(random.nextInt(vars.length), e());
            case 4:
                return ownNames.isEmpty() ? putting() : setOwn(random.nextInt(ownNames.size()), e());
            case 5:
                return def == 0 ? putting() : calling();
            case 8:
                return choice(e(), lines(3), null);
            case 9:
                return choice(e(), lines(3), lines(3));
            case 10:
                return ownNames.size() < MOST_OWN ? loop() : putting();
            default:
                return putting();
        }
    }

    private Line putting() {
        Value e = e();
        return new Line("put " + e.text() + ";", own -> output.add(e.work(own)));
    }

    private Line leaving() {
        if (random.nextInt(4) == 0) {
            return new Line("stop;", own -> {
                throw new Over(ENDED);
            });
        }
        Value e = e();
        return new Line("return " + e.text() + ";", own -> {
            throw new Given(e.work(own));
        });
    }

    private Line let(Value e) {
        int k = ownNames.size();
        ownNames.add("l" + (char) ('a' + k));
        return new Line("let " + ownNames.get(k) + " = " + e.text() + ";", own -> own[k] = e.work(own));
    }

    private Line setOwn(int k, Value e) {
        // a loop's counter is not set, so that the loop comes to its end
        if (ownNames.get(k).startsWith("n")) {
            return putting();
        }
        return new Line(ownNames.get(k) + " = " + e.text() + ";", own -> own[k] = e.work(own));
    }

    private Line setVar(int which, Value e) {
        return new Line("ab".charAt(which) + " = " + e.text() + ";", own -> vars[which] = e.work(own));
    }

    private Line setItem(Value index, Value e) {
        return new Line("v[" + index.text() + "] = " + e.text() + ";", own -> {
            int i = index.work(own);
            int value = e.work(own);
            items[item(i)] = value;
        });
    }

    private static int item(int i) {
        if (i < 0 || i >= ITEMS) {
            throw new Over(INDEX);
        }
        return i;
    }

    private Line calling() {
        Value call = callOf(random.nextInt(def));
        return new Line(call.text() + ";", own -> call.work(own));
    }

    private static Line choice(Value e, Line one, Line other) {
        String behind = other == null ? "}" : "} else { " + other.text() + "}";
        return new Line("if " + e.text() + " { " + one.text() + behind, own -> {
            if (e.work(own) != 0) {
                one.work(own);
            } else if (other != null) {
                other.work(own);
            }
        });
    }

    /** A loop that counts down from a small number. */
    private Line loop() {
        int k = ownNames.size();
        String n = "n" + (char) ('a' + k);
        ownNames.add(n);
        int times = random.nextInt(4);
        Line body = lines(3);
        String text = "let " + n + " = " + times + "; while " + n + " { " + n + " = " + n + " - 1; " + body.text() + "}";
        return new Line(text, own -> {
            own[k] = times;
            while (own[k] != 0) {
                own[k]--;
                body.work(own);
            }
        });
    }

    private Value e() {
        depth++;
        Value made = depth > 5 ? leaf() : madeE();
        depth--;
        return made;
    }

    private Value madeE() {
        switch (random.nextInt(8)) {
            case 0:
                Value e = e();
                return new Value(F, "-" + e.as(F), own -> -e.work(own));
            case 1:
                Value index = index();
                return new Value(F, "v[" + index.text() + "]", own -> items[item(index.work(own))]);
            case 2:
                return def == 0 ? leaf() : callOf(random.nextInt(def));
            case 3:
            case 4:
            case 5:
                return ofTwo(random.nextInt(SIGNS.length), e(), e());
            default:
                return leaf();
        }
    }

    /** Mostly one that fits, or few programs would come to their end. */
    private Value index() {
        return random.nextInt(6) == 0 ? e() : number(random.nextInt(ITEMS));
    }

    private static Value ofTwo(int which, Value one, Value other) {
        String sign = SIGNS[which];
        int kind = which < 3 ? T : which < 5 ? S : E;
        String left = one.as(kind == E ? S : kind);
        String right = other.as(kind == E ? S : kind + 1);
        return new Value(kind, left + " " + sign + " " + right, own -> {
            int first = one.work(own);
            return made(sign, first, other.work(own));
        });
    }

    private static int made(String sign, long left, int right) {
        switch (sign) {
            case "+":
                return (int) (left + right);
            case "-":
                return (int) (left - right);
            case "*":
                return (int) (left * right);
            case "/":
            case "%":
                if (right == 0) {
                    throw new Over(ZERO);
                }
                return (int) (sign.equals("/") ? left / right : left % right);
            case "==":
                return left == right ? 1 : 0;
            case "!=":
                return left == right ? 0 : 1;
            case "<":
                return left < right ? 1 : 0;
            case "<=":
                return left > right ? 0 : 1;
            case ">":
                return left > right ? 1 : 0;
            default:
                return left < right ? 0 : 1;
        }
    }

    /** A call of a def that stands above, so that no call comes back to itself. */
    private Value callOf(int which) {
        Value[] given = new Value[parameters(which)];
        StringBuilder text = new StringBuilder(which == 0 ? "f(" : "g(");
        for (int k = 0; k < given.length; k++) {
            given[k] = e();
            text.append(k == 0 ? "" : ", ").append(given[k].text());
        }
        return new Value(F, text + ")", own -> {
            int[] words = new int[given.length];
            for (int k = 0; k < words.length; k++) {
                words[k] = given[k].work(own);
            }
            return call(which, words);
        });
    }

    private static Value number(int n) {
        return new Value(F, String.valueOf(n), own -> n);
    }

    private Value leaf() {
        switch (random.nextInt(8)) {
            case 0:
                return new Value(F, "get", own -> taken < INPUT.length() ? INPUT.charAt(taken++) : -1);
            case 1:
                char c = (char) (32 + random.nextInt(95));
                return new Value(F, "'" + c + "'", own -> c);
            case 2:
                return number(random.nextInt(5));
            case 3:
                return number(random.nextInt(1000000000));
            case 4:
                return new Value(T, "-536870912 * 4", own -> Integer.MIN_VALUE);
            case 5:
                int which = random.nextInt(vars.length);
                return new Value(F, "ab".substring(which, which + 1), own -> vars[which]);
            default:
                return ownNames.isEmpty() ? number(1) : ownWord(random.nextInt(ownNames.size()));
        }
    }

    private Value ownWord(int k) {
        return new Value(F, ownNames.get(k), own -> own[k]);
    }
}
