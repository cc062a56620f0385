/** Part II: what can stand where, and what a text means when it is run, at the edges of both. */
public final class EdgesOfGrammarTest extends FaultCases {
    private static final String[] TOKENS = {
        "var", "def", "let", "if", "else", "while", "return", "put", "get", "stop", "v", "w", "f", "main", "(", ")",
        "{", "}", "[", "]", ",", ";", "=", "+", "-", "*", "/", "%", "<", ">", "==", "!=", "<=", ">=", "7", "0", "'a'"
    };
    private static final String WHOLE = "var v ; var w [ 5 ] ; def f ( a , b ) { let c = a ; if c { put 1 ; } else { "
        + "stop ; } while 0 { v = w [ 1 ] ; } return - ( a + b * 2 ) <= 3 ; } def main ( ) { w [ 0 ] = get ; "
        + "f ( 1 , 'x' ) ; f ( v , f ( 2 , 3 ) ) ; }";
    /** The greatest word, and the least, of numbers that a text can have. */
    private static final String MOST = "(999999999 * 2 + 147483649)";
    private static final String LEAST = "(-" + MOST + " - 1)";

    public static void main(String[] args) {
        programs();
        lines();
        expressions();
        oneTokenForAnother();
        varsAre0AtFirst();
        ownNames();
        partsFromTheLeft();
        wordsWrap();
        comparisons();
        returns();
        inputOutputAndStop();
        mainIsTheBeginning();
        Due.end();
    }

    private static void programs() {
        Due.says("' ' tell what stands so, { } any number of times, [ ] perhaps, | one of: "
            + "PROGRAM: { 'var' NAME [ '[' ( NUMBER | CHARACTER ) ']' ] ';' | 'def' NAME '(' [ NAME { ',' NAME } ] "
            + "')' BLOCK }. BLOCK: '{' { LINE } '}'.");
        noticed(MAIN, "@");
        fine("def main() { }");
        fine("def main() { } var a; var b[2]; def f() { } var c[' '];");
        fine("def f(a) { } def g(a, b) { } def h(a, b, c) { } def main() { stop; } def k() { stop; stop; }");
        noticed(SYNTAX, "@;");
        noticed(SYNTAX, "def main() { }@;");
        noticed(SYNTAX, "def main() { } def@");
        noticed(SYNTAX, "var a[@];");
        noticed(SYNTAX, "var a[1 @2];");
        noticed(SYNTAX, "var a[@a];");
        noticed(SYNTAX, "var a[@get];");
        noticed(SYNTAX, "var a[1]@=");
        noticed(SYNTAX, "var a @= 1;");
        noticed(SYNTAX, "def f @) { }");
        noticed(SYNTAX, "def f(@(");
        noticed(SYNTAX, "def f(a,@) { }");
        noticed(SYNTAX, "def f(a,@, b) { }");
        noticed(SYNTAX, "def f(a@; b) { }");
        noticed(SYNTAX, "def f(a, @1) { }");
        noticed(SYNTAX, "def f()@");
        noticed(SYNTAX, "def f() @stop;");
        noticed(SYNTAX, "def f() {@");
        noticed(SYNTAX, "def f() { @{ } }");
        noticed(SYNTAX, "def f() { } @}");
    }

    private static void lines() {
        Due.says("LINE: 'let' NAME '=' E ';' | 'if' E BLOCK [ 'else' BLOCK ] | 'while' E BLOCK | 'return' E ';' | "
            + "'put' E ';' | 'stop' ';' | NAME '(' [ E { ',' E } ] ')' ';' | NAME '[' E ']' '=' E ';' | NAME '=' E ';'.");
        fineInMain("let a = 1; if 1 { } if 1 { } else { } while 1 { } return 1; put 1; stop; main(); w[1] = 1; v = 1;");
        for (String refused : new String[] {
            "let @= 1;", "let a @1;", "let a = @;", "let a = 1 @stop;", "let a@[1] = 1;", "let a @== 1;", "if @{ }",
            "if 1 @stop;", "if 1 { } else @1", "if 1 { } else { } @else { }", "if 1 { } @;",
            "if 1 { } else @if 1 { }", "while @{ }", "while 1 @;", "while 1 { } @else { }", "return@;", "return 1 @2;",
            "put@;", "put 1 @, 2;", "put 1 @}", "stop @1;", "stop @}", "main(@;",
            "main() @stop;", "main() @= 1;", "main(@,);", "main(1,@);", "main(1 @2);", "w[@] = 1;", "w[1 @= 1;",
            "w[1]@;", "w[1] = @;", "w[1] = 1 @}", "w[1] @== 1;", "w[1@, 2]", "v = @;",
            "v = 1 @}", "v @== 1;", "v @1;", "v@;", "@= 1;", "@else { }", "@{ }", "@;", "@1;", "@(1);", "@-1;", "@get;",
            "@var a;", "@def f() { }"}) {
            inMain(SYNTAX, refused);
        }
    }

    private static void expressions() {
        Due.says("E: S [ ( '==' | '!=' | '<' | '<=' | '>' | '>=' ) S ]. S: T { ( '+' | '-' ) T }. T: F { ( '*' | '/' | "
            + "'%' ) F }. F: NUMBER | CHARACTER | 'get' | '-' F | '(' E ')' | NAME '(' [ E { ',' E } ] ')' | "
            + "NAME '[' E ']' | NAME.");
        String[] comparisons = {"==", "!=", "<", "<=", ">", ">="};
        for (String one : comparisons) {
            fineInMain("put 1 " + one + " 2;");
            fineInMain("put (1 " + one + " 2) " + one + " 3;");
            inMain(SYNTAX, "put @" + one + " 2;");
            inMain(SYNTAX, "put 1 " + one + "@;");
            for (String other : comparisons) {
                inMain(SYNTAX, "put 1 " + one + " 2 @" + other + " 3;");
            }
        }
        for (String sign : new String[] {"+", "-", "*", "/", "%"}) {
            fineInMain("put 1 " + sign + " 2 " + sign + " 3;");
            fineInMain("put 1 " + sign + " -2;");
            inMain(SYNTAX, "put 1 " + sign + "@;");
            inMain(SYNTAX, "put 1 " + sign + " @* 2;");
            if (!sign.equals("-")) {
                inMain(SYNTAX, "put @" + sign + " 1;");
            }
        }
        fineInMain("put 1; put 'a'; put get; put -1; put --1; put (1); put ((1)); put main(); put w[1]; put v;");
        for (String refused : new String[] {"put ();", "put (1;", "put (1, 2);", "put (1));", "put (1;", "put 1 2;",
            "put get();", "put get get;", "put - ;", "put w[];", "put w[1;", "put w[1)", "put w[1, 2];", "put main(;",
            "put main(,1);", "put main(1,);", "put main(1 2);", "put main(1];", "put stop;", "put let;", "put {1};",
            "put [1];", "put w[1][1];", "put main()();", "put v(1)(2);", "put 1(2);", "put (v)[1];", "put = 1;"}) {
            String text = "var v; var w[5]; def main() { " + refused + " }";
            SelfHouse x = Due.house(text);
            Due.due("fault(0) of " + refused, x.fault(0), SYNTAX);
            Due.agree(text);
        }
    }

    /** SELF is asked what can stand in each place, of every token and of the text's end. */
    private static void oneTokenForAnother() {
        Due.says("a token that can't come there (at its first byte; the text's length at the end);");
        String[] tokens = WHOLE.split(" ");
        fine(WHOLE);
        for (int i = 0; i < tokens.length; i++) {
            String ahead = String.join(" ", java.util.Arrays.copyOfRange(tokens, 0, i));
            String behind = String.join(" ", java.util.Arrays.copyOfRange(tokens, i + 1, tokens.length));
            Due.agree(ahead);
            Due.agree(ahead + " " + behind);
            for (String token : TOKENS) {
                Due.agree(ahead + " " + token + " " + behind);
            }
        }
    }

    /** The text is fine, comes to its end by itself, and puts out these words. */
    private static void puts(String want, String text, String input) {
        SelfHouse x = Due.begun(text, input);
        x.step(1000000);
        Due.due("the outputs of " + text, Due.outputs(x), want);
        Due.due("the outcome of " + text, x.state(0), 2);
    }

    private static void putsInMain(String want, String lines) {
        puts(want, "var v; var w[3]; var u; def main() { " + lines + " }", "");
    }

    private static void endsWith(int outcome, String lines) {
        SelfHouse x = Due.begun("var v; var w[3]; var u; def main() { " + lines + " }", "");
        x.step(1000000);
        Due.due("the outcome of " + lines, x.state(0), outcome);
    }

    private static void varsAre0AtFirst() {
        Due.says("Its MEANING: vars (one word, or as many as the number) are 0 at first, and of all defs;");
        putsInMain("0 0 0 0 0", "put v; put w[0]; put w[1]; put w[2]; put u;");
        putsInMain("1 2 0 4 5", "v = 1; w[0] = 2; w[2] = 4; u = 5; put v; put w[0]; put w[1]; put w[2]; put u;");
        for (int i : new int[] {3, 4, -1}) {
            endsWith(4, "put w[" + i + "];");
            endsWith(4, "w[" + i + "] = 1;");
        }
        puts("7 7", "var a[1]; def main() { a[0] = 7; f(); } def f() { put a[0]; put a[g()]; } def g() { return 0; }", "");
        puts("0 8", "var a[8000]; var b; def main() { put a[7999]; a[7999] = 8; put a[7999]; }", "");
        SelfHouse x = Due.begun("var a[8000]; var b; def main() { put a[8000]; }", "");
        x.step(9);
        Due.due("the outcome of a[8000]", x.state(0), 4);
    }

    private static void ownNames() {
        Due.says("parameters and what let tells are a def's own, from where they are told to its end, in each call of "
            + "it (0 until let is done).");
        putsInMain("5 6 5", "v = 5; put v; let v = v + 1; put v; f(); } def f() { put v;");
        putsInMain("5 9 5", "v = 5; put v; f(9); } def f(v) { put v; g(); } def g() { put v;");
        putsInMain("0 0 7", "if 0 { let a = 7; } put a; let b = a; put b; a = 7; put a;");
        putsInMain("1 2 3", "let i = 0; while i < 3 { let a = i; i = a + 1; put i; }");
        putsInMain("3 2 1 0 0 1 2 3", "f(3); } def f(n) { let k = n; put k; if n { f(n - 1); } put k;");
        inMain(NAME, "put @a; let a = 1;");
        inMain(NAME, "let a = @a;");
        noticed(NAME, "def f(a) { let b = a; } def main() { put @b; }");
        noticed(NAME, "def f(a) { let b = a; } def main() { put @a; }");
        fine("def f(a) { if a { let b = a; } put b; } def g() { let a = 1; let b = 2; } def main() { }");
    }

    private static void partsFromTheLeft() {
        Due.says("Parts are worked out from the left, then the sign;");
        String all = "var w[200]; def f(a, b) { return a * 1000 + b; } def main() { ";
        puts("-1", all + "put get - get; }", "AB");
        puts("4487", all + "put get + get * get; }", "ABC");
        puts("65066", all + "put f(get, get); }", "AB");
        puts("66 0", all + "w[get] = get; put w[65]; put w[66]; }", "AB");
        puts("1 0 1", all + "put get < get; put get > get; put get != get; }", "ABABAB");
        puts("-4 2 1", all + "put 1 - 2 - 3; put 100 / 10 / 5; put 17 % 10 % 3; }", "");
        puts("7 9 -7 -9", all + "put 1 + 2 * 3; put (1 + 2) * 3; put -1 - 2 * 3; put -(1 + 2) * 3; }", "");
    }

    private static void wordsWrap() {
        Due.says("words wrap, / is towards 0, % has the sign of what is divided (the least word by -1: itself, 0);");
        putsInMain("2147483647 -2147483648", "put " + MOST + "; put " + LEAST + ";");
        putsInMain("-2147483648 2147483647", "put " + MOST + " + 1; put " + LEAST + " - 1;");
        putsInMain("-2 0 -2147483648", "put " + MOST + " * 2; put " + LEAST + " * 2; put -" + LEAST + ";");
        putsInMain("-2147483648 0", "put " + LEAST + " / -1; put " + LEAST + " % -1;");
        putsInMain("-2147483647 0", "put " + MOST + " / -1; put " + MOST + " % -1;");
        putsInMain("-2147483648 0 1 0", "put " + LEAST + " / 1; put " + LEAST + " % 1; put " + LEAST + " / " + LEAST
            + "; put " + LEAST + " % " + LEAST + ";");
        putsInMain("3 -3 -3 3", "put 7 / 2; put -7 / 2; put 7 / -2; put -7 / -2;");
        putsInMain("1 -1 1 -1", "put 7 % 2; put -7 % 2; put 7 % -2; put -7 % -2;");
        putsInMain("0 0 0 0", "put 1 / 2; put -1 / 2; put 0 / -2; put 0 % -2;");
        putsInMain("1 -1 -1", "put 1 % 2; put -1 % 2; put " + LEAST + " % " + MOST + ";");
        endsWith(5, "put 1 / v;");
        endsWith(5, "put 0 % v;");
        endsWith(5, "put " + LEAST + " / v;");
    }

    private static void comparisons() {
        Due.says("== to >= give 1 or 0; if and while want any word but 0.");
        String[] signs = {"==", "!=", "<", "<=", ">", ">="};
        String[] words = {LEAST, "(-1)", "0", "1", MOST};
        for (int a = 0; a < words.length; a++) {
            StringBuilder lines = new StringBuilder();
            StringBuilder want = new StringBuilder();
            for (int b = 0; b < words.length; b++) {
                boolean[] holds = {a == b, a != b, a < b, a <= b, a > b, a >= b};
                for (int k = 0; k < signs.length; k++) {
                    lines.append("put ").append(words[a]).append(signs[k]).append(words[b]).append(";");
                    want.append(holds[k] ? " 1" : " 0");
                }
            }
            putsInMain(want.substring(1), lines.toString());
        }
        for (String word : words) {
            boolean none = word.equals("0");
            putsInMain(none ? "3" : "2", "if " + word + " { put 2; } else { put 3; }");
            putsInMain(none ? "4" : "2 4", "if " + word + " { put 2; } put 4;");
            putsInMain(none ? "4" : "2", "while " + word + " { put 2; stop; } put 4;");
        }
        putsInMain("3 2 1 0", "v = 3; while v { put v; v = v - 1; } put v;");
    }

    private static void returns() {
        Due.says("A def's call gives what return tells, 0 at its end.");
        String defs = "def e() { } def r() { return 5; } def z() { return 0; } def l() { return " + LEAST + "; } "
            + "def c(n) { while 1 { if n { return n; } return 8; } } def n(x) { if x { return 6; } } ";
        puts("0 5 0 -2147483648 3 8 6 0", defs + "def main() { put e(); put r(); put z(); put l(); put c(3); put c(0);"
            + " put n(1); put n(0); }", "");
        puts("1", defs + "def main() { put 1; e(); r(); return 7; put 2; }", "");
    }

    private static void inputOutputAndStop() {
        Due.says("get gives the next byte of the INPUT, -1 behind its end; put is a word more of the OUTPUT; stop ends "
            + "all.");
        String text = "def main() { put get; put get; put get; put get; }";
        puts("-1 -1 -1 -1", text, "");
        puts("0 -1 -1 -1", text, "\0");
        puts("0 255 128 -1", text, "\0\u00ff\u0080");
        puts("0 255 128 127", text, "\0\u00ff\u0080\u007f\u0001");
        puts("1 2", "def f() { put 2; g(); put 3; } def g() { while 1 { stop; } } def main() { put 1; f(); put 4; }", "");
    }

    private static void mainIsTheBeginning() {
        Due.says("It begins with main().");
        puts("1", "def main() { put 1; } def f() { put 2; }", "");
        puts("1", "def f() { put 2; } def main() { put 1; }", "");
        puts("1 2", "def f() { g(); } def g() { put 2; } def main() { put 1; f(); } def h() { put 3; }", "");
    }
}
