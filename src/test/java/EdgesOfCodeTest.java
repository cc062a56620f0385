/** Part III and promises 6 to 11: the first and the last of what a code numbers, and codes asked beyond their ends. */
public final class EdgesOfCodeTest extends FaultCases {
    private static final int MIN = Integer.MIN_VALUE;
    private static final int MAX = Integer.MAX_VALUE;

    public static void main(String[] args) {
        numbersOfProcs();
        placesOfVars();
        numbersOfOwnNames();
        wordsOfF();
        wordsOfLines();
        placesToGoOnAt();
        theHead();
        compileAnswers();
        compileRefuses();
        faults();
        sizes();
        words();
        pokes();
        differences();
        Due.end();
    }

    private static void whole(String text, String want) {
        SelfHouse x = Due.house(text);
        Due.due("fault(0) of " + text, x.fault(0), 0);
        Due.due("the words of " + text, Due.words(x, 0), want);
        Due.agree(text);
    }

    /** The words of main, in which f has the number 0 and main 1, without the 0 0 23 behind them. */
    private static void body(String lines, String want) {
        SelfHouse x = Due.house("var v; var w[5]; var u; def f(a) { } def main() { " + lines + " }");
        Due.due("fault(0) of " + lines, x.fault(0), 0);
        StringBuilder got = new StringBuilder();
        for (int i = 14; i < x.size(0) - 3; i++) {
            got.append(i == 14 ? "" : " ").append(x.word(0, i));
        }
        Due.due("the words of " + lines, got.toString(), want);
    }

    private static void numbersOfProcs() {
        Due.says("PROCS are numbered from 0 on: a def's NAME behind the token behind it, a call's behind the token behind "
            + "its ), each NAME the first time.");
        // main is 0; of a call inside a call the inner one is first; what was called has its number when its def comes
        whole("def main() { a(b(c())); d(); } def d() { } def c() { } def b(x) { } def a(x) { }",
            "7919 45 0 5 0 0 0 0 16 0 0 19 1 1 22 1 1 13 0 0 21 1 21 2 21 3 22 21 4 22 0 0 23 0 0 23 0 0 23 0 0 23 0 0 23");
        StringBuilder text = new StringBuilder();
        for (int i = 0; i < 59; i++) {
            text.append("def ").append(Due.name("p", i)).append("(){}");
        }
        SelfHouse x = Due.house(text + "def main() { pcg(); paa(); main(); }");
        Due.due("main's number, the 60th", x.word(0, 4), 59);
        Due.due("the last proc's place", x.word(0, 5 + 3 * 59), 59 * 3);
        int start = 5 + 180 + 59 * 3;
        int[] want = {21, 58, 22, 21, 0, 22, 21, 59, 22, 0, 0, 23};
        for (int i = 0; i < want.length; i++) {
            Due.due("word of main " + i, x.word(0, start + i), want[i]);
        }
    }

    private static void placesOfVars() {
        Due.says("Vars have their words one behind the other, as they stand.");
        whole("var a; var b[1]; var c; def main() { put a; put b[0]; put c; }",
            "7919 23 3 1 0 0 0 0 3 0 24 0 0 5 1 1 24 3 2 24 0 0 23");
        SelfHouse x = Due.house("var a[8000]; def main() { put c; put b[7]; } var b[8000]; var c;");
        Due.due("a var told behind its use", x.fault(0), NAME);
        whole("var a[8000]; var b[8000]; var c[3998]; var d; var e; def main() { put e; e = d; c[0] = 1; }",
            "7919 25 20000 1 0 0 0 0 3 19999 24 3 19998 4 19999 0 0 0 1 6 16000 3998 0 0 23");
        x = Due.house("def main() { } ");
        Due.due("no vars", x.word(0, 2), 0);
    }

    private static void numbersOfOwnNames() {
        Due.says("A def's own names are numbered from 0 on, as they are told.");
        StringBuilder text = new StringBuilder("def main() { ");
        for (int k = 0; k < 20; k++) {
            text.append("let ").append(Due.name("k", k)).append(" = ").append(100 + k).append("; ");
        }
        SelfHouse x = Due.house(text + "put kaa; put kat; kat = kaa; }");
        for (int k = 0; k < 20; k++) {
            Due.due("let " + k, x.word(0, 8 + 4 * k + 3), k);
        }
        int[] want = {1, 0, 24, 1, 19, 24, 1, 0, 2, 19, 0, 0, 23};
        for (int i = 0; i < want.length; i++) {
            Due.due("word " + i, x.word(0, 88 + i), want[i]);
        }
        Due.due("main's own names", x.word(0, 7), 20);
        whole("def f(b, a) { let c = b; let d = a; } def main() { let z = 1; }",
            "7919 29 0 2 1 0 2 4 11 0 1 1 0 2 2 1 1 2 3 0 0 23 0 1 2 0 0 0 23");
    }

    private static void wordsOfF() {
        Due.says("NUMBER: 0 n (ahead of reading the token behind it; the same of get: 25). A def's own name: 1 k; = to it: "
            + "E, 2 k. A var: 3 a (its first word); = to it: E, 4 a. NAME [ E ]: E, 5 a n (its number); = to that: E, E, "
            + "6 a n. + 7, - 8, * 9, / 10, % 11, - ahead 12, == 13, != 14, < 15, <= 16, > 17, >= 18: both parts, then "
            + "it.");
        body("put 0; put 999999999; put '~'; put get;", "0 0 24 0 999999999 24 0 126 24 25 24");
        body("let a = 1; let b = 2; a = b; b = a;", "0 1 2 0 0 2 2 1 1 1 2 0 1 0 2 1");
        body("v = u; u = v;", "3 6 4 0 3 0 4 6");
        body("w[0] = w[4]; w[w[v]] = 9;", "0 0 0 4 5 1 5 6 1 5 3 0 5 1 5 0 9 6 1 5");
        String[] signs = {"+", "-", "*", "/", "%", "", "==", "!=", "<", "<=", ">", ">="};
        for (int i = 0; i < signs.length; i++) {
            if (!signs[i].isEmpty()) {
                body("put 3 " + signs[i] + " 4;", "0 3 0 4 " + (7 + i) + " 24");
            }
        }
        body("put -3; put ---3;", "0 3 12 24 0 3 12 12 12 24");
        body("put 1 - -2 - 3;", "0 1 0 2 12 8 0 3 8 24");
        body("put -1 * -2 + -3 < -4;", "0 1 12 0 2 12 9 0 3 12 7 0 4 12 15 24");
    }

    private static void wordsOfLines() {
        Due.says("let: E, 2 (behind the token behind its ;), then the name is told, k. Call: E's, 21 p; as a LINE then "
            + "22. return: E, 23. put: E, 24. stop: 26.");
        body("let a = 7;", "0 7 2 0");
        body("let v = v; let u = v;", "3 0 2 0 1 0 2 1");
        body("main(); put main(); f(main()); put f(f(1));", "21 1 22 21 1 24 21 1 21 0 22 0 1 21 0 21 0 24");
        body("return 0; stop; return main();", "0 0 23 26 21 1 23");
    }

    private static void placesToGoOnAt() {
        Due.says("if: E, 20 x, BLOCK, x being the place behind; with else: E, 20 x, BLOCK, 19 y, x: BLOCK, y. while: b: E, "
            + "20 x, BLOCK, 19 b, x. (x, y are put as 0 first.) def: BLOCK, 0 0 23.");
        // main's first word has the place 3, behind f's 0 0 23
        body("if 1 { }", "0 1 20 7");
        body("if 1 { } else { }", "0 1 20 9 19 9");
        body("if 1 { stop; } else { stop; stop; }", "0 1 20 10 26 19 12 26 26");
        body("while 1 { }", "0 1 20 9 19 3");
        body("while v { if 1 { } } stop;", "3 0 20 13 0 1 20 11 19 3 26");
        body("if 1 { while 2 { } } else { if 3 { } }", "0 1 20 15 0 2 20 13 19 7 19 19 0 3 20 19");
        whole("def main() { while 1 { } }", "7919 17 0 1 0 0 0 0 0 1 20 6 19 0 0 0 23");
        whole("def main() { }", "7919 11 0 1 0 0 0 0 0 0 23");
    }

    private static void theHead() {
        Due.says("A CODE is: 7919, how many words it has in all, how many the vars have, how many procs, main's number; "
            + "for each proc the place of its def's first word, its parameters, its own names (these with them); then "
            + "the words of code; places count from there.");
        whole("var v[8000]; var w[8000]; var u[4000]; def main() { }", "7919 11 20000 1 0 0 0 0 0 0 23");
        whole("def f(a) { } def main() { let x = 1; } def g(a, b) { let c = a; }",
            "7919 31 0 3 1 0 1 1 3 0 1 10 2 3 0 0 23 0 1 2 0 0 0 23 1 0 2 2 0 0 23");
    }

    private static void compileAnswers() {
        Due.says("`int compile(int s, int d)`: TEXT s is compiled: its code becomes CODE d: how many words.");
        for (int s = 0; s <= 3; s++) {
            for (int d = 0; d <= 5; d++) {
                SelfHouse x = new SelfHouse();
                x.self((s + 1) % 4);
                x.compile((s + 1) % 4, d);
                Due.put(x, s, "def main() { put 1; }");
                Due.due("compile(" + s + ", " + d + ")", x.compile(s, d), 14);
                Due.due("words", Due.words(x, d), "7919 14 0 1 0 0 0 0 0 1 24 0 0 23");
                Due.due("word(" + d + ", 14)", x.word(d, 14), 0);
                Due.due("size(" + (d + 1) % 6 + ")", x.size((d + 1) % 6), 0);
                Due.due("text(" + s + ", 20)", x.text(s, 20), '}');
            }
        }
    }

    private static void compileRefuses() {
        Due.says("NONE when it is refused (CODE d stays), or there is no such TEXT or CODE.");
        String[] refused = {"", "def main() { put 1 }", "def main() { put x; }", "def f(a) { f(); }", "def main() { f(); }",
            "def f() { }", "var a[0]; def main() { }", "def main() { " + Due.repeat("stop;", 1200) + "$"};
        for (String text : refused) {
            for (int d = 0; d <= 5; d++) {
                SelfHouse x = new SelfHouse();
                x.self(0);
                x.compile(0, d);
                Due.put(x, 3, text);
                x.begin(d, 3);
                x.step(20);
                String before = Seen.texts(x) + Seen.codes(x) + Seen.machine(x);
                Due.due("compile(3, " + d + ") of " + text, x.compile(3, d), -1);
                Due.due("all but the fault", Seen.texts(x) + Seen.codes(x) + Seen.machine(x), before);
                Due.due("fault(0) is above 0", x.fault(0) > 0, true);
            }
        }
        int[][] none = {{-1, 0}, {4, 0}, {0, -1}, {0, 6}, {3, 6}, {4, 5}, {-1, -1}, {MIN, 0}, {MAX, 0}, {0, MIN}, {0, MAX}};
        for (int[] n : none) {
            SelfHouse x = Due.house("def main() { put x; }");
            x.self(3);
            String before = Seen.all(x);
            Due.due("compile(" + n[0] + ", " + n[1] + ")", x.compile(n[0], n[1]), -1);
            Due.due("all that can be seen", Seen.all(x), before);
        }
    }

    private static void faults() {
        Due.says("`int fault(int what)`: Of the latest compile() that was of a TEXT and a CODE: the kind of what was "
            + "noticed (what 0; 0 if nothing), its place (1; NONE if nothing). NONE for another what, or ahead of any.");
        SelfHouse x = new SelfHouse();
        for (int what : new int[] {-1, 0, 1, 2, MIN, MAX}) {
            Due.due("fault(" + what + ") ahead of any", x.fault(what), -1);
        }
        x.compile(4, 0);
        x.compile(0, 6);
        Due.due("fault(0) ahead of any of a TEXT and a CODE", x.fault(0), -1);
        Due.due("compile(2, 5) of an empty TEXT", x.compile(2, 5), -1);
        Due.due("fault(0)", x.fault(0), MAIN);
        Due.due("fault(1)", x.fault(1), 0);
        x.self(1);
        Due.due("fault(0) behind self(1)", x.fault(0), MAIN);
        x.compile(1, 5);
        Due.due("fault(0)", x.fault(0), 0);
        Due.due("fault(1)", x.fault(1), -1);
        x.compile(-1, 0);
        x.compile(0, -1);
        Due.due("fault(0) behind refused ones", x.fault(0), 0);
        Due.put(x, 3, "var a; $");
        x.compile(3, 0);
        Due.due("fault(0)", x.fault(0), SYNTAX);
        Due.due("fault(1)", x.fault(1), 7);
        x.compile(4, 0);
        x.compile(1, 6);
        Due.due("fault(0) behind refused ones", x.fault(0), SYNTAX);
        Due.due("fault(1) behind refused ones", x.fault(1), 7);
        for (int what : new int[] {-1, 2, 3, MIN, MAX}) {
            Due.due("fault(" + what + ")", x.fault(what), -1);
        }
    }

    private static void sizes() {
        Due.says("`int size(int d)`: How many words CODE d has; NONE when there is no such CODE.");
        SelfHouse x = Due.house("def main() { }");
        x.compile(0, 5);
        int[] want = {11, 0, 0, 0, 0, 11};
        for (int d = 0; d <= 5; d++) {
            Due.due("size(" + d + ")", x.size(d), want[d]);
        }
        for (int d : new int[] {-1, 6, MIN, MAX}) {
            Due.due("size(" + d + ")", x.size(d), -1);
        }
    }

    private static void words() {
        Due.says("`int word(int d, int i)`: Word i of CODE d; 0 when there is none.");
        SelfHouse x = Due.house("def main() { put 1; put 2; }");
        x.compile(0, 5);
        Due.put(x, 0, "def main() { }");
        x.compile(0, 5);
        Due.due("word(0, 0)", x.word(0, 0), 7919);
        Due.due("word(0, 16)", x.word(0, 16), 23);
        Due.due("word(5, 10)", x.word(5, 10), 23);
        // what was there ahead of the shorter code is none of its
        for (int i : new int[] {-1, 11, 12, 16, 8000, MIN, MAX}) {
            Due.due("word(5, " + i + ")", x.word(5, i), 0);
        }
        for (int d : new int[] {-1, 1, 4, 6, MIN, MAX}) {
            Due.due("word(" + d + ", 0)", x.word(d, 0), 0);
        }
    }

    private static void pokes() {
        Due.says("`boolean poke(int d, int i, int v)`: Word i of CODE d becomes v: true; false when there is none.");
        for (int d : new int[] {0, 5}) {
            for (int i : new int[] {0, 1, 9, 10}) {
                for (int v : new int[] {0, 1, -1, MIN, MAX}) {
                    SelfHouse x = Due.house("def main() { }");
                    x.compile(0, 5);
                    Due.due("poke(" + d + ", " + i + ", " + v + ")", x.poke(d, i, v), true);
                    for (int k = 0; k < 11; k++) {
                        int old = new int[] {7919, 11, 0, 1, 0, 0, 0, 0, 0, 0, 23}[k];
                        Due.due("word(" + d + ", " + k + ")", x.word(d, k), k == i ? v : old);
                        Due.due("word of the other code", x.word(5 - d, k), old);
                    }
                    Due.due("size(" + d + ")", x.size(d), 11);
                }
            }
        }
        int[][] none = {{0, -1}, {0, 11}, {5, 11}, {1, 0}, {4, 0}, {-1, 0}, {6, 0}, {0, MIN}, {0, MAX}, {MIN, 0}, {MAX, 0}};
        for (int[] n : none) {
            SelfHouse x = Due.house("def main() { put 1; }");
            Due.put(x, 0, "def main() { }");
            x.compile(0, 0);
            x.compile(0, 5);
            String before = Seen.all(x);
            Due.due("poke(" + n[0] + ", " + n[1] + ", 9)", x.poke(n[0], n[1], 9), false);
            Due.due("all that can be seen", Seen.all(x), before);
        }
    }

    private static void differences() {
        Due.says("`int differ(int a, int b)`: The first place at which CODES a and b differ (where only one has a word, "
            + "too); NONE when they are alike; -2 when there is no such CODE.");
        SelfHouse x = Due.house("def main() { }");
        x.compile(0, 5);
        Due.due("differ(0, 5)", x.differ(0, 5), -1);
        Due.due("differ(1, 4), both empty", x.differ(1, 4), -1);
        Due.due("differ(0, 4), one empty", x.differ(0, 4), 0);
        Due.due("differ(4, 0), one empty", x.differ(4, 0), 0);
        for (int i = 10; i >= 0; i--) {
            x.poke(5, i, MAX);
            Due.due("differ(0, 5)", x.differ(0, 5), i);
            Due.due("differ(5, 0)", x.differ(5, 0), i);
            Due.due("differ(5, 5)", x.differ(5, 5), -1);
        }
        // code 3 is as long as code 2 and one word more, which is 0
        SelfHouse y = new SelfHouse();
        Due.lay(y, 2, 1, 2, 3);
        Due.lay(y, 3, 1, 2, 3, 0);
        Due.due("differ(2, 3)", y.differ(2, 3), 3);
        Due.due("differ(3, 2)", y.differ(3, 2), 3);
        y.poke(3, 2, 4);
        Due.due("differ(2, 3)", y.differ(2, 3), 2);
        for (int d : new int[] {-1, 6, MIN, MAX}) {
            Due.due("differ(" + d + ", 0)", x.differ(d, 0), -2);
            Due.due("differ(5, " + d + ")", x.differ(5, d), -2);
            Due.due("differ(" + d + ", " + d + ")", x.differ(d, d), -2);
        }
    }
}
