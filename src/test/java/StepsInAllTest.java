/** Promise 13: fewer than 60000000 steps in all. */
public final class StepsInAllTest {
    public static void main(String[] args) {
        SelfHouse x = Due.house("def main() { while 1 { } }");
        x.begin(0, -1);
        for (int i = 0; i < 40; i++) {
            Due.due("step(1000000)", x.step(1000000), 1000000);
        }
        x.begin(0, -1);
        Due.due("step(7)", x.step(7), 7);
        for (int i = 0; i < 19; i++) {
            Due.due("step(1000000)", x.step(1000000), 1000000);
        }
        Due.due("step(1000000), the last of them", x.step(1000000), 999993);
        Due.due("step(1000000), behind them", x.step(1000000), 0);
        Due.due("step(1)", x.step(1), 0);
        Due.due("step(1000001)", x.step(1000001), -1);
        Due.due("state(0)", x.state(0), 1);
        Due.due("state(2)", x.state(2), 20000000);
        Due.due("begin(0, -1)", x.begin(0, -1), true);
        Due.due("step(1), begun anew", x.step(1), 0);
        Due.due("state(2)", x.state(2), 0);
        Due.end();
    }
}
