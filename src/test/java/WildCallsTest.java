import java.util.Random;

/** No call throws, whatever it is given, and the same calls give the same answers. */
public final class WildCallsTest {
    private static final int[] SOME = {-2, -1, 0, 1, 2, 3, 4, 5, 6, 7, 19, 20, 21, 100, 1000, 1999, 2000, 7999, 8000,
        20000, 1000000, 1000001, Integer.MIN_VALUE, Integer.MAX_VALUE, 0x7fffffff - 20, 0x20202020, 0x7d3b0a20};

    public static void main(String[] args) {
        for (int seed = 0; seed < 400; seed++) {
            Due.due("answers of seed " + seed, answers(seed), answers(seed));
        }
        Due.end();
    }

    private static String answers(int seed) {
        Random random = new Random(seed);
        StringBuilder all = new StringBuilder();
        SelfHouse x = new SelfHouse();
        for (int i = 0; i < 512; i++) {
            int which = random.nextInt(20);
            int a = some(random);
            int b = some(random);
            int c = some(random);
            try {
                all.append(call(x, which, a, b, c)).append(' ');
            } catch (Throwable thrown) {
                Due.due("call " + which + " with " + a + " " + b + " " + c + " threw " + thrown, 1, 0);
            }
        }
        return all.toString();
    }

    private static int some(Random random) {
        return random.nextBoolean() ? random.nextInt(6) : SOME[random.nextInt(SOME.length)];
    }

    private static int call(SelfHouse x, int which, int a, int b, int c) {
        switch (which) {
            case 0: return x.feed(a, b, c, a, b);
            case 1: return x.keep(a, b);
            case 2: return x.self(a);
            case 3: return x.text(a, b);
            case 4: return x.compile(a, b);
            case 5: return x.fault(a);
            case 6: return x.size(a);
            case 7: return x.word(a, b);
            case 8: return x.poke(a, b, c) ? 1 : 0;
            case 9: return x.differ(a, b);
            case 10: return x.begin(a, b) ? 1 : 0;
            case 11: return x.step(a);
            case 12: return x.state(a);
            case 13: return x.top(a);
            case 14: return x.memory(a);
            case 15: return x.own(a);
            case 16: return x.output(a);
            case 17: return x.take(a);
            case 18: return x.poke(a, 5 + b, c) ? 1 : 0;
            default: return x.step(1000);
        }
    }
}
