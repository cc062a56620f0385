/** Promise 6: the code of each form of the language, and what compile refuses. */
public final class CompileTest {
    private static final String VARS = "var v; var w[5]; var u; ";

    public static void main(String[] args) {
        numbersAndNames();
        signs();
        lines();
        branches();
        calls();
        heads();
        blanks();
        tokensOfTwoSigns();
        refusals();
        codesThatStay();
        Due.end();
    }

    /** The words of the body of main, which has code 0 0 23 behind it. */
    private static void body(String lines, String want) {
        SelfHouse x = Due.house(VARS + "def main() { " + lines + " }");
        Due.due("fault(0) of " + lines, x.fault(0), 0);
        Due.due("fault(1) of " + lines, x.fault(1), -1);
        StringBuilder got = new StringBuilder();
        for (int i = 8; i < x.size(0); i++) {
            got.append(x.word(0, i)).append(' ');
        }
        Due.due(lines, got.toString(), want + (want.isEmpty() ? "" : " ") + "0 0 23 ");
    }

    private static void whole(String text, String want) {
        SelfHouse x = Due.house(text);
        Due.due("fault(0) of " + text, x.fault(0), 0);
        Due.due(text, Due.words(x, 0), want);
        Due.due("compile of " + text, x.compile(0, 1), want.split(" ").length);
        Due.agree(text);
    }

    private static void numbersAndNames() {
        body("", "");
        body("put 7;", "0 7 24");
        body("put 000000007;", "0 7 24");
        body("put 999999999;", "0 999999999 24");
        body("put 'a';", "0 97 24");
        body("put ' ';", "0 32 24");
        body("put '~';", "0 126 24");
        body("put ''';", "0 39 24");
        body("put '#';", "0 35 24");
        body("put get;", "25 24");
        body("put v;", "3 0 24");
        body("put u;", "3 6 24");
        body("put w[2];", "0 2 5 1 5 24");
        body("put w[w[v]];", "3 0 5 1 5 5 1 5 24");
        body("let a = 1; put a; let b = a; b = 2;", "0 1 2 0 1 0 24 1 0 2 1 0 2 2 1");
        body("let v = v; put v; v = 1;", "3 0 2 0 1 0 24 0 1 2 0");
        body("let w = 1; put w[w];", "0 1 2 0 1 0 5 1 5 24");
        body("let letter = 1; put letter;", "0 1 2 0 1 0 24");
    }

    private static void signs() {
        body("put 1 + 2 * 3 - 4;", "0 1 0 2 0 3 9 7 0 4 8 24");
        body("put 8 / 4 % 3 * 2;", "0 8 0 4 10 0 3 11 0 2 9 24");
        body("put (1 + 2) * 3;", "0 1 0 2 7 0 3 9 24");
        body("put -1;", "0 1 12 24");
        body("put --v*2;", "3 0 12 12 0 2 9 24");
        body("put 1--1;", "0 1 0 1 12 8 24");
        body("put -(1 + 2);", "0 1 0 2 7 12 24");
        body("put 1 == 2;", "0 1 0 2 13 24");
        body("put 1 != 2;", "0 1 0 2 14 24");
        body("put 1 < 2;", "0 1 0 2 15 24");
        body("put 1 <= 2;", "0 1 0 2 16 24");
        body("put 1 > 2;", "0 1 0 2 17 24");
        body("put 1 >= 2;", "0 1 0 2 18 24");
        body("put 1 + 2 < 3 * 4;", "0 1 0 2 7 0 3 0 4 9 15 24");
        body("put (1 == 2) == (3 == 4);", "0 1 0 2 13 0 3 0 4 13 13 24");
    }

    private static void lines() {
        body("v = 3;", "0 3 4 0");
        body("u = v;", "3 0 4 6");
        body("w[1] = 2;", "0 1 0 2 6 1 5");
        body("w[v + 1] = w[2];", "3 0 0 1 7 0 2 5 1 5 6 1 5");
        body("return 5;", "0 5 23");
        body("stop;", "26");
        body("stop; stop;", "26 26");
        body("main();", "21 0 22");
        body("put main();", "21 0 24");
    }

    private static void branches() {
        body("if 1 { put 2; }", "0 1 20 7 0 2 24");
        body("if 1 { }", "0 1 20 4");
        body("if 1 { put 2; } else { put 3; }", "0 1 20 9 0 2 24 19 12 0 3 24");
        body("if 1 { } else { }", "0 1 20 6 19 6");
        body("while v { v = 0; }", "3 0 20 10 0 0 4 0 19 0");
        body("stop; while 1 { stop; }", "26 0 1 20 8 26 19 1");
        body("while 1 { if 2 { stop; } else { } }", "0 1 20 13 0 2 20 11 26 19 11 19 0");
    }

    private static void calls() {
        whole("def main() { b(a()); } def a() { } def b(x) { let y = x; }",
            "7919 32 0 3 0 0 0 0 8 0 0 11 1 2 21 1 21 2 22 0 0 23 0 0 23 1 0 2 1 0 0 23");
        whole("def add(a, b) { return a + b; } def main() { put add(1, 2 * 3); }",
            "7919 33 0 2 1 0 2 2 9 0 0 1 0 1 1 7 23 0 0 23 0 1 0 2 0 3 9 21 0 24 0 0 23");
        whole("var f; def f(f) { put f; f = 1; put f(f); } def main() { f = 2; }",
            "7919 33 1 2 1 0 1 1 15 0 0 1 0 24 0 1 2 0 1 0 21 0 24 0 0 23 0 2 4 0 0 0 23");
    }

    private static void heads() {
        whole("def main() { }", "7919 11 0 1 0 0 0 0 0 0 23");
        whole("def f() { } def main() { }", "7919 17 0 2 1 0 0 0 3 0 0 0 0 23 0 0 23");
        whole("var a; var b[3]; var c['0']; def main() { } var d;", "7919 11 53 1 0 0 0 0 0 0 23");
        whole("def main() { if 1 { let a = 1; } else { let b = 2; } }",
            "7919 25 0 1 0 0 0 2 0 1 20 10 0 1 2 0 19 14 0 2 2 1 0 0 23");
    }

    private static void blanks() {
        String want = "7919 14 1 1 0 0 0 0 3 0 24 0 0 23";
        whole("var v;def main(){put v;}", want);
        whole("  \n var\nv ; # put 1; } '\ndef main ( ) { put v ; }\n# end", want);
        whole("#\nvar v;def main(){put v;}#", want);
        whole("var v;#;#;\n#\n\n##\ndef main(){put#\nv;}\n \n", want);
    }

    private static void tokensOfTwoSigns() {
        body("put 1<=2;", "0 1 0 2 16 24");
        body("put 1==-2;", "0 1 0 2 12 13 24");
        body("put 1>-2;", "0 1 0 2 12 17 24");
        body("put 12*main();", "0 12 21 0 9 24");
        body("v=1;u=v==1;", "0 1 4 0 3 0 0 1 13 4 6");
    }

    private static void refusals() {
        SelfHouse x = Due.house("def main() { }");
        Due.put(x, 1, "def main() { put x; }");
        Due.due("compile(1, 1)", x.compile(1, 1), -1);
        Due.due("fault(0)", x.fault(0), 2);
        int[][] none = {{-1, 0}, {4, 0}, {0, -1}, {0, 6}, {Integer.MIN_VALUE, 0}, {0, Integer.MAX_VALUE}, {9, 9}};
        for (int[] n : none) {
            Due.due("compile(" + n[0] + ", " + n[1] + ")", x.compile(n[0], n[1]), -1);
            Due.due("fault(0)", x.fault(0), 2);
            Due.due("fault(1)", x.fault(1), 17);
        }
        Due.due("fault(2)", x.fault(2), -1);
        Due.due("fault(-1)", x.fault(-1), -1);
        Due.due("compile(0, 5)", x.compile(0, 5), 11);
        Due.due("fault(0)", x.fault(0), 0);
        Due.due("fault(1)", x.fault(1), -1);
    }

    private static void codesThatStay() {
        SelfHouse x = Due.house("def main() { put 1; }");
        Due.put(x, 1, "def main() { put 1; ");
        Due.due("compile(1, 0)", x.compile(1, 0), -1);
        Due.due("size(0)", x.size(0), 14);
        Due.put(x, 1, "def main() { }");
        Due.due("compile(1, 0)", x.compile(1, 0), 11);
        Due.due("word(0, 11)", x.word(0, 11), 0);
        Due.due("text(1, 0)", x.text(1, 0), 'd');
        for (int d = 1; d < 6; d++) {
            Due.due("size(" + d + ")", x.size(d), 0);
        }
    }
}
