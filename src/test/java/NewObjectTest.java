/** Promise 1: what a new object answers. */
public final class NewObjectTest {
    public static void main(String[] args) {
        SelfHouse x = new SelfHouse();
        Due.due("NONE", SelfHouse.NONE, -1);
        for (int s = -2; s < 6; s++) {
            Due.due("text(" + s + ", 0)", x.text(s, 0), -1);
        }
        for (int d = 0; d < 6; d++) {
            Due.due("size(" + d + ")", x.size(d), 0);
            Due.due("word(" + d + ", 0)", x.word(d, 0), 0);
            Due.due("differ(0, " + d + ")", x.differ(0, d), -1);
            Due.due("poke(" + d + ", 0, 1)", x.poke(d, 0, 1), false);
            Due.due("begin(" + d + ", 0)", x.begin(d, 0), false);
            Due.due("take(" + d + ")", x.take(d), -1);
        }
        for (int what = 0; what < 8; what++) {
            Due.due("state(" + what + ")", x.state(what), 0);
        }
        Due.due("state(8)", x.state(8), -1);
        Due.due("state(-1)", x.state(-1), -1);
        for (int what = -1; what < 3; what++) {
            Due.due("fault(" + what + ")", x.fault(what), -1);
        }
        Due.due("step(0)", x.step(0), -1);
        Due.due("step(1)", x.step(1), -1);
        Due.due("top(0)", x.top(0), 0);
        Due.due("memory(0)", x.memory(0), 0);
        Due.due("own(0)", x.own(0), 0);
        Due.due("output(0)", x.output(0), 0);
        Due.due("keep(0, 0)", x.keep(0, 0), 0);
        Due.due("keep(0, 1)", x.keep(0, 1), -1);
        twoObjectsShareNothing();
        Due.end();
    }

    private static void twoObjectsShareNothing() {
        SelfHouse a = new SelfHouse();
        SelfHouse b = new SelfHouse();
        a.feed(1, 2, 3, 4, 5);
        a.self(2);
        a.compile(2, 1);
        a.begin(1, 2);
        a.step(100);
        Due.due("b.state(7)", b.state(7), 0);
        Due.due("b.text(2, 0)", b.text(2, 0), -1);
        Due.due("b.size(1)", b.size(1), 0);
        Due.due("b.state(0)", b.state(0), 0);
        Due.due("b.fault(0)", b.fault(0), -1);
    }
}
