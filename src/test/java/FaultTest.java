/** Promise 7, and what is noticed in a text (promise 6). */
public final class FaultTest extends FaultCases {
    public static void main(String[] args) {
        tokens();
        characters();
        partsOfThePlan();
        linesOfThePlan();
        expressionsOfThePlan();
        openSigns();
        names();
        namesAndTheTokenBehind();
        arguments();
        missingAndMain();
        largeProcs();
        largeVars();
        largeOwns();
        largeCode();
        textsOf8000Bytes();
        nothingIsLeftOfTheTextBefore();
        Due.end();
    }

    private static void tokens() {
        noticed(SYNTAX, "abcdef@g");
        noticed(SYNTAX, "abcdef@gh");
        noticed(SYNTAX, "@abcdef");
        noticed(SYNTAX, "var abcdef@g;");
        noticed(SYNTAX, "var return@s;");
        fine("var abcdef; def main() { }");
        inMain(SYNTAX, "put 123456789@0;");
        inMain(SYNTAX, "put 000000000@0;");
        fineInMain("put 123456789;");
        inMain(SYNTAX, "put 123456789@a;");
        for (char c : "$\"&.:?@ABZ\\^_`|~\t\r\0\u007f\u0080\u00e4\u00ff".toCharArray()) {
            if (c != '@') {
                inMain(SYNTAX, "put 1 @" + c + " 2;");
                noticed(SYNTAX, "@" + c);
            }
        }
        inMain(SYNTAX, "put 1 @! 2;");
        inMain(SYNTAX, "put 1 @! = 2;");
        inMain(SYNTAX, "put 1 @!");
        inMain(SYNTAX, "put 1 !=@= 2;");
        inMain(SYNTAX, "put 1 < @= 2;");
        inMain(SYNTAX, "v @== 2;");
    }

    private static void characters() {
        inMain(SYNTAX, "put '@\n';");
        inMain(SYNTAX, "put '@\u001f';");
        inMain(SYNTAX, "put '@\u007f';");
        inMain(SYNTAX, "put '@\u00ff';");
        inMain(SYNTAX, "put 'a@b';");
        inMain(SYNTAX, "put 'a@;");
        inMain(SYNTAX, "put ''@;");
        inMain(SYNTAX, "put '@\0';");
        noticed(SYNTAX, "def main() { put '@");
        noticed(SYNTAX, "def main() { put 'a@");
        noticed(SYNTAX, "def main() { put 'a'@");
        noticed(SYNTAX, "@'a'");
    }

    private static void partsOfThePlan() {
        for (String token : new String[] {"x", "1", ";", "let", "if", "put", "get", "stop", "{", "}", "(", "=="}) {
            noticed(SYNTAX, "@" + token);
            noticed(SYNTAX, "var v; @" + token);
            noticed(SYNTAX, "def main() { } @" + token);
        }
        noticed(SYNTAX, "var@");
        noticed(SYNTAX, "var @1;");
        noticed(SYNTAX, "var @def;");
        noticed(SYNTAX, "var a@");
        noticed(SYNTAX, "var a @, b;");
        noticed(SYNTAX, "var a[@b];");
        noticed(SYNTAX, "var a[@];");
        noticed(SYNTAX, "var a[@-1];");
        noticed(SYNTAX, "var a[1@;");
        noticed(SYNTAX, "var a[1]@");
        noticed(SYNTAX, "var a[1] @[2];");
        noticed(SYNTAX, "def @() { }");
        noticed(SYNTAX, "def @while() { }");
        noticed(SYNTAX, "def main @{ }");
        noticed(SYNTAX, "def main(@1) { }");
        noticed(SYNTAX, "def main(@,) { }");
        noticed(SYNTAX, "def main(a,@) { }");
        noticed(SYNTAX, "def main(a @b) { }");
        noticed(SYNTAX, "def main(a, b@");
        noticed(SYNTAX, "def main() @;");
        noticed(SYNTAX, "def main() @");
        noticed(SYNTAX, "def main() {@");
        noticed(SYNTAX, "def main() { \n # }\n @");
        noticed(SYNTAX, "def main() { } @}");
    }

    private static void linesOfThePlan() {
        for (String token : new String[] {"1", ";", "else", "var", "def", "get", "{", "(", "-", "'a'", "="}) {
            inMain(SYNTAX, "@" + token);
            inMain(SYNTAX, "stop; @" + token + " 1;");
        }
        inMain(SYNTAX, "let @1 = 2;");
        inMain(SYNTAX, "let @if = 2;");
        inMain(SYNTAX, "let a @2;");
        inMain(SYNTAX, "let a @;");
        inMain(SYNTAX, "let a = @;");
        inMain(SYNTAX, "let a = 1 @b");
        inMain(SYNTAX, "if @{ }");
        inMain(SYNTAX, "if 1 @put 1;");
        inMain(SYNTAX, "if 1 { } else @if 1 { }");
        inMain(SYNTAX, "if 1 { } else { } @else { }");
        inMain(SYNTAX, "while @{ }");
        inMain(SYNTAX, "while 1 @;");
        inMain(SYNTAX, "while 1 { } @else { }");
        inMain(SYNTAX, "return @;");
        noticed(SYNTAX, "def main() { return 1 @}");
        inMain(SYNTAX, "put @;");
        inMain(SYNTAX, "put 1 @2;");
        inMain(SYNTAX, "stop @1;");
        inMain(SYNTAX, "v @;");
        inMain(SYNTAX, "v @+ 1;");
        inMain(SYNTAX, "v = @;");
        inMain(SYNTAX, "v = 1 @= 2;");
        inMain(SYNTAX, "w[1] @;");
        inMain(SYNTAX, "w[@] = 1;");
        inMain(SYNTAX, "w[1 @) = 1;");
        inMain(SYNTAX, "w[1] = @;");
        inMain(SYNTAX, "main() @= 1;");
        inMain(SYNTAX, "main() @+ 1;");
        inMain(SYNTAX, "main(@;");
    }

    private static void expressionsOfThePlan() {
        inMain(SYNTAX, "put 1 == 2 @== 3;");
        inMain(SYNTAX, "put 1 < 2 @> 3;");
        inMain(SYNTAX, "put 1 + @;");
        inMain(SYNTAX, "put 1 + @+ 1;");
        inMain(SYNTAX, "put 1 * @* 1;");
        inMain(SYNTAX, "put 1 % @;");
        inMain(SYNTAX, "put - @;");
        inMain(SYNTAX, "put @+ 1;");
        inMain(SYNTAX, "put (@);");
        inMain(SYNTAX, "put (1 @;");
        inMain(SYNTAX, "put (1 @];");
        inMain(SYNTAX, "put main(1 @2);");
        inMain(SYNTAX, "put main(1, @);");
        inMain(SYNTAX, "put main(@, 1);");
        inMain(SYNTAX, "put w[@];");
        inMain(SYNTAX, "put w[1 @;");
        inMain(SYNTAX, "put @put;");
        inMain(SYNTAX, "put get @get;");
        inMain(SYNTAX, "put get@();");
    }

    private static void openSigns() {
        fineInMain("put " + Due.repeat("(", 29) + "1" + Due.repeat(")", 29) + ";");
        inMain(SYNTAX, "put " + Due.repeat("(", 29) + "@(1" + Due.repeat(")", 30) + ";");
        inMain(SYNTAX, "put " + Due.repeat("(", 29) + "@($");
        inMain(SYNTAX, "put " + Due.repeat("(", 29) + "@$");
        inMain(SYNTAX, "put " + Due.repeat("(", 29) + "1 @(");
        fineInMain("put " + Due.repeat("-", 29) + "1 - 1;");
        inMain(SYNTAX, "put " + Due.repeat("-", 29) + "@-1;");
        fineInMain("put " + Due.repeat("-", 28) + "(1) " + Due.repeat("-", 30) + "1;");
        inMain(SYNTAX, "put " + Due.repeat("-", 29) + "@(1);");
        inMain(SYNTAX, "put " + Due.repeat("-", 28) + "(1) " + Due.repeat("-", 30) + "@-1;");
        fineInMain("put " + Due.repeat("w[", 29) + "1" + Due.repeat("]", 29) + ";");
        inMain(SYNTAX, "put " + Due.repeat("w[", 29) + "w@[1" + Due.repeat("]", 30) + ";");
        inMain(NAME, "put " + Due.repeat("w[", 29) + "@x[1");
        fineInMain(Due.repeat("w[", 29) + "1" + Due.repeat("]", 29) + " = 1;");
        fine("def f(a) { } def main() { " + Due.repeat("f(", 29) + "1" + Due.repeat(")", 29) + "; }");
        noticed(SYNTAX, "def f(a) { } def main() { " + Due.repeat("f(", 29) + "f@(1" + Due.repeat(")", 30) + "; }");
        fineInMain(Due.repeat("if 1 {", 29) + Due.repeat("}", 29));
        inMain(SYNTAX, Due.repeat("if 1 {", 29) + "if 1 @{ " + Due.repeat("}", 30));
        fineInMain(Due.repeat("while v {", 28) + "put (1) + (2);" + Due.repeat("}", 28) + "if 1 { put (1); }");
        inMain(SYNTAX, Due.repeat("while v {", 29) + "put @(1) + (2);" + Due.repeat("}", 29));
        fineInMain(Due.repeat("if 1 { ", 29) + Due.repeat("} else { }", 29));
        inMain(SYNTAX, Due.repeat("if 1 { ", 29) + "if @(1) { } }");
    }

    private static void names() {
        noticed(NAME, "var a; var @a; def main() { }");
        noticed(NAME, "var a; var @a[3]; def main() { }");
        noticed(NAME, "def f(a, @a) { } def main() { }");
        noticed(NAME, "def f(a) { let @a = 1; } def main() { }");
        inMain(NAME, "let a = 1; let @a = 2;");
        inMain(NAME, "if 1 { let a = 1; } let @a = 2;");
        fine("def f(a) { let b = a; } def g(a) { let b = a; } def main() { }");
        noticed(NAME, "def f() { } def @f() { } def main() { }");
        noticed(NAME, "def f() { } def @f(a) { } def main() { }");
        fine("def main() { f(); } def f() { }");
        fine("var f; def f(f) { } def main() { }");
        inMain(NAME, "put @v[1];");
        inMain(NAME, "put @x[1];");
        inMain(NAME, "@v[1] = 2;");
        inMain(NAME, "@x[1] = 2;");
        inMain(NAME, "let a = 1; put @a[1];");
        inMain(NAME, "put @w;");
        inMain(NAME, "@w = 1;");
        noticed(NAME, "var a[1]; def main() { put @a; }");
        noticed(NAME, "var a[1]; def main() { @a = 1; }");
        inMain(NAME, "put @x;");
        inMain(NAME, "@x = 1;");
        inMain(NAME, "@x;");
        inMain(NAME, "@x + 1;");
        inMain(NAME, "@main = 1;");
        inMain(NAME, "put @main;");
        inMain(NAME, "let a = @a;");
        fineInMain("let v = v;");
        fineInMain("if v { let a = 1; } put a;");
        noticed(NAME, "def f(a) { } def main() { put @a; }");
        noticed(NAME, "def main() { put @v; } var v;");
        noticed(NAME, "def main() { put @w[1]; } var w[3];");
        inMain(NAME, "put @x[$];");
        inMain(NAME, "put @x 1;");
        inMain(NAME, "put 1 + @x");
    }

    private static void namesAndTheTokenBehind() {
        noticed(SYNTAX, "var a; var a@$");
        noticed(NAME, "var a; var @a 1");
        noticed(SYNTAX, "def f(a, a@$");
        noticed(NAME, "def f(a, @a 1");
        inMain(SYNTAX, "let a = 1; let a @$");
        inMain(NAME, "let a = 1; let @a 1");
        noticed(SYNTAX, "def f() { } def f@$");
        noticed(NAME, "def f() { } def @f 1");
        inMain(SYNTAX, "put x@$");
        inMain(SYNTAX, "x@$");
        inMain(NAME, "@x[$");
        noticed(NAME, "def main() { put @x");
    }

    private static void arguments() {
        noticed(ARGUMENTS, "def f(a) { } def main() { @f(); }");
        noticed(ARGUMENTS, "def f() { } def main() { put @f(1); }");
        noticed(ARGUMENTS, "def f(a, b) { } def main() { put @f(1); }");
        noticed(ARGUMENTS, "def main() { f(1); } def @f() { }");
        noticed(ARGUMENTS, "def main() { f(1); @f(); } def f(a) { }");
        noticed(ARGUMENTS, "def main() { f(1); f(2); @f(1, 2); }");
        noticed(ARGUMENTS, "def main() { put @f(f(1, 2)); }");
        noticed(ARGUMENTS, "def f(a) { @f(); } def main() { }");
        noticed(ARGUMENTS, "def f(a) { } def main() { @f() 1");
        noticed(ARGUMENTS, "def f(a) { } def main() { put @f()");
        noticed(SYNTAX, "def f(a) { } def main() { f()@$");
        noticed(SYNTAX, "def main() { f(1); } def f()@$");
        noticed(ARGUMENTS, "def main() { f(1); } def @f() 1");
        noticed(SYNTAX, "def main() { f(1); } def f(@1");
        inMain(ARGUMENTS, "@main(1);");
    }

    private static void missingAndMain() {
        noticed(MISSING, "def main() { @f(); }");
        noticed(MISSING, "def main() { @f(); f(); g(); }");
        noticed(MISSING, "def main() { g(@h()); }");
        noticed(MISSING, "def main() { f(@f(1)); }");
        noticed(MISSING, "def main() { f(); @g(); } def f() { h(); }");
        noticed(MISSING, "def f() { @g(); }");
        noticed(MISSING, "def f() { @main(); }");
        noticed(MAIN, "@");
        noticed(MAIN, "  \n@");
        noticed(MAIN, "# def main() { }@");
        noticed(MAIN, "var a;@");
        noticed(MAIN, "var main;@");
        noticed(MAIN, "def main(a) { }@");
        noticed(MAIN, "def f() { } # x\n @");
        noticed(MAIN, "def maim() { } def mai() { } def mainn() { }@");
    }

    private static void textsOf8000Bytes() {
        String begin = "def main() { ";
        String blanks = Due.repeat(" \n", 4000);
        fine(begin + blanks.substring(begin.length() + 1) + "}");
        noticed(SYNTAX, begin + blanks.substring(begin.length()) + "@");
        noticed(SYNTAX, begin + blanks.substring(begin.length() + 1) + "@$");
        noticed(MAIN, blanks + "@");
        noticed(SYNTAX, "def main(){put " + Due.repeat("1+", 10) + "@" + Due.repeat(";", 7965));
        noticed(SYNTAX, "def main(){@" + Due.repeat("{", 7989));
    }

    private static void nothingIsLeftOfTheTextBefore() {
        SelfHouse x = Due.house("var a; var b[7]; def f(k, l) { put " + Due.repeat("(", 20) + "$");
        Due.due("fault(0)", x.fault(0), 1);
        Due.put(x, 0, "def main() { put " + Due.repeat("(", 29) + "1" + Due.repeat(")", 29) + "; }");
        Due.due("compile(0, 0)", x.compile(0, 0), 14);
        Due.due("words", Due.words(x, 0), "7919 14 0 1 0 0 0 0 0 1 24 0 0 23");
        Due.put(x, 0, "var a; var b[7]; def f() { } def main() { let k = f(); }");
        Due.due("compile(0, 0)", x.compile(0, 0), 21);
        Due.due("words", Due.words(x, 0), "7919 21 8 2 1 0 0 0 3 0 1 0 0 23 21 0 2 0 0 0 23");
        Due.put(x, 0, "def main() { put k; }");
        Due.due("compile(0, 0)", x.compile(0, 0), -1);
        Due.due("fault(0)", x.fault(0), 2);
        Due.due("fault(1)", x.fault(1), 17);
    }

    private static String defs(int from, int to) {
        StringBuilder all = new StringBuilder();
        for (int i = from; i < to; i++) {
            all.append("def ").append(Due.name("p", i)).append("(){}");
        }
        return all.toString();
    }

    private static void largeProcs() {
        fine(defs(0, 59) + "def main() { }");
        noticed(LARGE, defs(0, 60) + "def @main() { }");
        noticed(LARGE, defs(0, 60) + "def @main 1");
        noticed(SYNTAX, defs(0, 60) + "def main @$");
        noticed(LARGE, "def main() { } " + defs(0, 57) + "def f() { g(); @h(); }");
        noticed(LARGE, "def main() { } " + defs(0, 57) + "def f() { g(); @h() 1");
        noticed(SYNTAX, "def main() { } " + defs(0, 57) + "def f() { g(); h()@$");
        noticed(LARGE, "def main() { } " + defs(0, 57) + "def f() { @h(g());");
        noticed(NAME, "def main() { } " + defs(0, 59) + "def @main() { }");
    }

    private static String vars(int from, int to) {
        StringBuilder all = new StringBuilder();
        for (int i = from; i < to; i++) {
            all.append("var ").append(Due.name("x", i)).append(";");
        }
        return all.toString();
    }

    private static void largeVars() {
        noticed(LARGE, "var a[@0];");
        noticed(LARGE, "var a[@000];");
        noticed(LARGE, "var a[@8001];");
        noticed(LARGE, "var a[@999999999];");
        noticed(LARGE, "var a[@0$");
        noticed(SYNTAX, "var a[1@$");
        fine("var a[8000]; def main() { }");
        fine("var a['~']; def main() { }");
        fine(vars(0, 60) + "def main() { }");
        noticed(LARGE, vars(0, 60) + "var @a; def main() { }");
        noticed(LARGE, vars(0, 60) + "var @a[1]; 1");
        noticed(SYNTAX, vars(0, 60) + "var a;@$");
        noticed(SYNTAX, vars(0, 60) + "var a @, b;");
        noticed(NAME, vars(0, 60) + "var @xaa; def main() { }");
        fine("var a[8000]; var b[8000]; var c[3999]; var d; def main() { }");
        noticed(LARGE, "var a[8000]; var b[8000]; var c[3999]; var d; var @e; def main() { }");
        noticed(LARGE, "var a[8000]; var b[8000]; var @c[4001]; def main() { }");
        noticed(SYNTAX, "var a[8000]; var b[8000]; var c[4001]; @$");
        noticed(LARGE, "var a[8000]; var b[8000]; var @c[8000]; 1");
    }

    private static String parameters(int to) {
        StringBuilder all = new StringBuilder();
        for (int i = 0; i < to; i++) {
            all.append(i == 0 ? "" : ",").append(Due.name("k", i));
        }
        return all.toString();
    }

    private static void largeOwns() {
        fine("def f(" + parameters(20) + ") { } def main() { }");
        noticed(LARGE, "def f(" + parameters(20) + ", @z) { } def main() { }");
        noticed(LARGE, "def f(" + parameters(20) + ", @z 1");
        noticed(SYNTAX, "def f(" + parameters(20) + ", z@$");
        noticed(NAME, "def f(" + parameters(20) + ", @kaa 1");
        noticed(LARGE, "def f(" + parameters(20) + ") { let @z = 1; } def main() { }");
        noticed(LARGE, "def f(" + parameters(20) + ") { let @z = 1; 1");
        noticed(SYNTAX, "def f(" + parameters(20) + ") { let z = 1;@$");
        noticed(SYNTAX, "def f(" + parameters(20) + ") { let z = 1 @} def main() { }");
        noticed(LARGE, "def f(" + parameters(19) + ") { let y = 1; let @z = 1; } def main() { }");
        noticed(NAME, "def f(" + parameters(20) + ") { let y = @x; let z = 1; } def main() { }");
        fine("def f(" + parameters(20) + ") { } def g(" + parameters(20) + ") { } def main() { }");
    }

    /** It has 3 * k - 1 words of code. */
    private static String sum(int k) {
        return "1" + Due.repeat("+1", k - 1);
    }

    private static void largeCode() {
        fine("def main() { put " + sum(1998) + "; } def f() { }");
        SelfHouse x = Due.house("def main() { put " + sum(1998) + "; } def f() { }");
        Due.due("size(0)", x.size(0), 5 + 6 + 6000);
        noticed(LARGE, "def main() { put " + sum(1998) + "; } def f() { } def g() { }@");
        noticed(LARGE, "def main() { put " + sum(1998) + "; } def f() { } def g() { } @var x;");
        noticed(LARGE, "def main() { put " + sum(1999) + "; } def f() { stop; @}");
        noticed(LARGE, "def main() { put " + sum(2000) + "; } @");
        noticed(LARGE, "def main() { put " + sum(2000) + "; put @get; }");
        noticed(LARGE, "def main() { put " + sum(2000) + "+@1$");
        noticed(LARGE, "def main() { put " + sum(1999) + "; stop; stop; } @");
        noticed(LARGE, "def main() { put " + sum(1999) + "; stop; stop; stop; stop; @}");
        noticed(LARGE, "def main() { put " + sum(1999) + "; stop; stop; stop; put @1$");
        noticed(LARGE, "def main() { put " + sum(1999) + "; stop; stop; put @1$");
        noticed(LARGE, "def main() { put " + sum(1999) + "; stop; stop; stop; stop; @put");
        noticed(LARGE, "def main() { let a = 1; put " + sum(1998) + "; stop; put a @; }");
        noticed(LARGE, "def main() { let a = 1; put " + sum(1998) + "; put a; @}");
        noticed(LARGE, "def f(" + parameters(20) + ") { put " + sum(1999) + "; stop; let z = 1; @} def");
        noticed(LARGE, "def f(" + parameters(20) + ") { put " + sum(1999) + "; let @z = 1; } def");
        noticed(LARGE, "def f(" + parameters(19) + ") { put " + sum(1999) + "; let z = 1; @} def");
    }
}
