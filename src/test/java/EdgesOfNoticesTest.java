import java.util.ArrayList;
import java.util.List;

/** Part II, what is noticed: the last that is taken, the first that is not, and which of two comes first. */
public final class EdgesOfNoticesTest extends FaultCases {
    /** Of each sign that can be open: what stands up to it, and what ends it. */
    private static final String[][] OPEN = {{"(", ")"}, {"-", ""}, {"w[", "]"}, {"f(", ")"}};

    public static void main(String[] args) {
        theFirstInTheText();
        theSeventhLetterAndTheTenthDigit();
        theThirtyFirstOpenSign();
        theThirtyFirstOpenBlock();
        openSignsAreEnded();
        theMinusIsOpenUntilItsFIsDone();
        namesToldTwice();
        namesAheadOfBrackets();
        namesAlone();
        argumentsOfTheFirstPlace();
        missingDefs();
        noMain();
        procs();
        numbersOfVars();
        vars();
        ownNames();
        wordsOfCode();
        allAtTheirMost();
        Due.end();
    }

    private static void theFirstInTheText() {
        Due.says("WHAT IS NOTICED, in the order of the text: it is read from the left, always one token ahead of what "
            + "is done: that token is looked at by itself as soon as what stands ahead of it has come to its turn.");
        inMain(NAME, "put @x; put y; put 1 2;");
        inMain(SYNTAX, "put 1 @2; put x;");
        // the wrong byte is noticed ahead of the name when it is the token behind it, not when it is the next but one
        inMain(SYNTAX, "put x@$;");
        inMain(NAME, "put @x;$");
        inMain(NAME, "put @x+$");
        inMain(SYNTAX, "put x @!");
        inMain(SYNTAX, "put x 123456789@0");
        inMain(NAME, "put @x 123456789");
        noticed(SYNTAX, "var a; var a@\"");
        noticed(NAME, "var a; var @a;\"");
        noticed(SYNTAX, "def f(a) { f()@$");
        noticed(ARGUMENTS, "def f(a) { @f();$");
        noticed(SYNTAX, "@1 $");
        noticed(SYNTAX, "def main() @( $");
        noticed(SYNTAX, "@x");
        noticed(SYNTAX, "@$");
        noticed(SYNTAX, "@abcdef abcdefg");
        noticed(SYNTAX, "var@$ a;");
        noticed(LARGE, "var a[@0$];");
        noticed(SYNTAX, "var a[1@$];");
        noticed(SYNTAX, "def f() { g(1); f(1)@$");
        noticed(ARGUMENTS, "def f() { g(1); @f(1) 1$");
    }

    private static void theSeventhLetterAndTheTenthDigit() {
        Due.says("1 SYNTAX: a NAME's 7th letter, a NUMBER's 10th digit (at it);");
        fine("var abcdef; def main() { abcdef = 123456789; }");
        noticed(SYNTAX, "var abcdef@g; def main() { abcdef = 123456789; }");
        noticed(SYNTAX, "var abcdef; def main() { abcdef = 123456789@0; }");
        noticed(SYNTAX, "var abcdef; def main() { abcdef@f = 123456789; }");
        noticed(SYNTAX, "abcdef@g");
        noticed(SYNTAX, "@abcdef");
        noticed(SYNTAX, "123456789@1");
        noticed(SYNTAX, "@123456789");
    }

    private static String opened(int n, String[] sign) {
        return Due.repeat(sign[0], n) + "1" + Due.repeat(sign[1], n);
    }

    /** In main, whose own { is open, behind a def of f and a var w. */
    private static void inDepth(boolean isFine, String marked) {
        String text = "var w[5]; def f(k) { } def main() { " + marked + " }";
        if (isFine) {
            fine(text);
        } else {
            noticed(SYNTAX, text);
        }
    }

    private static void theThirtyFirstOpenSign() {
        Due.says("of { of a BLOCK, ( of calls and of F, [ ahead of an E, and - of F, the 31st that is open (at it, as "
            + "its turn comes, ahead of the token behind it;");
        for (String[] sign : OPEN) {
            String last = sign[0].length() == 1 ? "@" + sign[0] : sign[0].substring(0, 1) + "@" + sign[0].substring(1);
            inDepth(true, "put " + opened(29, sign) + ";");
            inDepth(false, "put " + Due.repeat(sign[0], 29) + last + "1" + Due.repeat(sign[1], 30) + ";");
            inDepth(false, "put " + Due.repeat(sign[0], 29) + last + "$");
            inDepth(false, "put " + Due.repeat(sign[0], 29) + last);
            for (String[] other : OPEN) {
                String end = Due.repeat(other[1], 14) + Due.repeat(sign[1], 15);
                inDepth(true, "put " + Due.repeat(sign[0], 15) + Due.repeat(other[0], 14) + "1" + end + ";");
                inDepth(false, "put " + Due.repeat(sign[0], 15) + Due.repeat(other[0], 14) + last + "1" + end + ";");
            }
        }
        // a LINE's own ( and [ are open like those of an E
        inDepth(true, "f(" + opened(28, OPEN[0]) + ");");
        inDepth(false, "f(" + Due.repeat("(", 28) + "@(1" + Due.repeat(")", 30) + ";");
        inDepth(true, "w[" + opened(28, OPEN[0]) + "] = " + opened(29, OPEN[0]) + ";");
        inDepth(false, "w[" + Due.repeat("(", 28) + "@(1" + Due.repeat(")", 29) + "] = 1;");
        inDepth(false, "w[1] = " + Due.repeat("(", 29) + "@(1" + Due.repeat(")", 30) + ";");
        // a def's ( and a var's [ are none of them
        inDepth(true, "put " + opened(29, OPEN[0]) + "; } var u[3]; def g(a, b) { put " + opened(29, OPEN[1]) + ";");
        // a name is looked at ahead of its [, and a ( that can't come there is none that is open
        noticed(NAME, "def main() { put " + Due.repeat("(", 29) + "@x[1");
        noticed(SYNTAX, "def main() { put " + Due.repeat("(", 29) + "1@(1");
    }

    private static void theThirtyFirstOpenBlock() {
        Due.says("of { of a BLOCK, ( of calls and of F, [ ahead of an E, and - of F, the 31st that is open");
        for (String head : new String[] {"if 1 ", "while 0 "}) {
            inDepth(true, Due.repeat(head + "{ ", 29) + Due.repeat("} ", 29));
            inDepth(false, Due.repeat(head + "{ ", 29) + head + "@{ } " + Due.repeat("} ", 29));
            inDepth(false, Due.repeat(head + "{ ", 29) + head + "@{$");
        }
        inDepth(true, Due.repeat("if 1 { } else { ", 29) + Due.repeat("} ", 29));
        inDepth(false, Due.repeat("if 1 { } else { ", 29) + "if 1 @{ } " + Due.repeat("} ", 29));
        inDepth(false, Due.repeat("if 1 { } else { ", 29) + "while 0 @{$");
        inDepth(true, Due.repeat("if 1 { ", 29) + Due.repeat("} else { } ", 29));
        inDepth(true, Due.repeat("if 1 { ", 15) + "put " + opened(14, OPEN[0]) + "; " + Due.repeat("} ", 15));
        inDepth(false, Due.repeat("if 1 { ", 15) + "put " + Due.repeat("(", 14) + "@(1");
        inDepth(true, Due.repeat("if 1 { ", 28) + "w[1] = 1; f(1); put -1;" + Due.repeat("} ", 28));
        inDepth(false, Due.repeat("if 1 { ", 29) + "w@[1] = 1;");
        inDepth(false, Due.repeat("if 1 { ", 29) + "f@(1);");
        inDepth(false, Due.repeat("if 1 { ", 29) + "put @-1;");
        inDepth(false, Due.repeat("if 1 { ", 29) + "put @(1);");
        inDepth(true, Due.repeat("if 1 { ", 29) + "put 1 - 1; stop;" + Due.repeat("} ", 29));
    }

    private static void openSignsAreEnded() {
        Due.says("each is so no more behind what ends it, and the token behind that).");
        for (String[] sign : OPEN) {
            String one = sign[0] + "1" + sign[1];
            inDepth(true, "put " + Due.repeat("(", 28) + one + " + " + one + " * " + one + Due.repeat(")", 28) + ";");
            inDepth(true, "put " + opened(29, sign) + "; put " + opened(29, sign) + ";");
            inDepth(true, "put " + opened(29, sign) + " == " + opened(29, sign) + ";");
            inDepth(true, "if " + opened(29, sign) + " { put " + opened(28, sign) + "; } put " + opened(29, sign)
                + ";");
            inDepth(false, "if 1 { put " + opened(28, sign) + "; } put " + opened(28, sign) + " + "
                + Due.repeat("(", 29) + "@(1");
        }
        inDepth(true, Due.repeat("if 1 { } else { } ", 40) + Due.repeat("while 0 { } ", 40));
        inDepth(true, Due.repeat("if 1 { ", 29) + Due.repeat("} ", 29) + Due.repeat("if 1 { ", 29)
            + Due.repeat("} ", 29));
    }

    private static void theMinusIsOpenUntilItsFIsDone() {
        Due.says("a - is open until its F is done;");
        String open = "put " + Due.repeat("(", 28);
        String end = Due.repeat(")", 28) + ";";
        inDepth(true, open + "-1" + end);
        inDepth(true, open + "-1 * w[1]" + end);
        inDepth(true, open + "-1 - -1 + (1)" + end);
        inDepth(true, open + "-1 * (1) / f(1)" + end);
        inDepth(true, open + "-get < -get" + end);
        inDepth(false, open + "-@-1" + end);
        inDepth(false, open + "-@(1)" + end);
        inDepth(false, open + "-w@[1]" + end);
        inDepth(false, open + "-f@(1)" + end);
        inDepth(false, open + "-1 * -@-1" + end);
    }

    private static void namesToldTwice() {
        Due.says("2 NAME (at it, as soon as the token behind it is read): a var's that is a var's already;");
        fine("var a; var b; def a() { } def main() { let a = 1; }");
        noticed(NAME, "var a; var @a; def main() { }");
        noticed(NAME, "var a[2]; def main() { } var @a;");
        noticed(NAME, "var a; var @a 1");
        noticed(NAME, "var a; var @a");
        noticed(SYNTAX, "var a; var a@$");
        Due.says("a parameter's or let's that is one of this def already;");
        fine("var a; def f(a, b) { let c = 1; } def c(c, a) { let b = 1; } def main() { let a = 1; let f = 1; }");
        noticed(NAME, "def f(a, b, @a) { } def main() { }");
        noticed(NAME, "def f(a, @a");
        noticed(SYNTAX, "def f(a, a@$");
        noticed(NAME, "def f(a) { let @a = 1; } def main() { }");
        noticed(NAME, "def f(a) { let @a 1");
        noticed(SYNTAX, "def f(a) { let a@$");
        inMain(NAME, "let a = 1; let b = 1; let @a = 1;");
        inMain(NAME, "while 0 { let a = 1; } let @a = 1;");
        Due.says("a def's that was told by a def already;");
        fine("def f() { g(); } def g() { f(); } def main() { g(); }");
        noticed(NAME, "def f() { } def @f() { } def main() { }");
        noticed(NAME, "def f() { } def main() { } def @f");
        noticed(NAME, "def main() { } def @main(a) { }");
        noticed(SYNTAX, "def f() { } def f@$");
    }

    private static void namesAheadOfBrackets() {
        Due.says("ahead of [ one that is no var with a number;");
        fine("var a[1]; def f(a) { put a[0]; a[0] = a; } def main() { let a = 1; put a[a]; }");
        for (String line : new String[] {"put @x[1];", "@x[1] = 1;", "put @v[1];", "@v[1] = 1;", "put @main[1];",
            "@main[1] = 1;", "let a = 1; put @a[1];", "let a = 1; @a[1] = 1;", "put w[@v[1]];", "put @x[",
            "put @x[$"}) {
            inMain(NAME, line);
        }
        noticed(NAME, "def main() { put @a[0]; } var a[1];");
    }

    private static void namesAlone() {
        Due.says("one alone in an E, or at the beginning of a LINE, with neither ( nor [ behind it, that is none of "
            + "this def's own and no var without a number (told above).");
        fine("var a; def f(b) { let c = a + b; a = b; b = c; c = a; } def main() { put a; }");
        for (String line : new String[] {"put @x;", "put 1 + @x;", "put -@x;", "put (@x);", "put w[@x];", "main(@x);",
            "if @x { }", "while @x { }", "return @x;", "let a = @x;", "v = @x;", "w[1] = @x;", "@x = 1;", "@w = 1;",
            "put @w;", "@main = 1;", "put @main;", "@x;", "@x 1", "put @x 1", "@w"}) {
            inMain(NAME, line);
        }
        noticed(NAME, "def f(b) { let c = 1; } def main() { put @b; }");
        noticed(NAME, "var a[1]; def main() { put @a; }");
        noticed(NAME, "var a[1]; def main() { @a = 1; }");
        noticed(NAME, "var a[8000]; def main() { put @a; }");
        noticed(NAME, "def f(b) { let c = 1; } def main() { @c = 1; }");
        noticed(NAME, "def main() { put @a; } var a;");
        noticed(NAME, "def main() { @a = 1; } var a;");
        inMain(SYNTAX, "put x@$");
        inMain(SYNTAX, "x@$");
    }

    private static void argumentsOfTheFirstPlace() {
        Due.says("3 ARGUMENTS: a def's or call's number of parameters, E's, is another one than at the first place "
            + "where that NAME stood so, noticed behind the token behind its ) (at the NAME).");
        for (int n = 0; n <= 3; n++) {
            for (int m = 0; m <= 3; m++) {
                String def = "(" + String.join(", ", List.of("a", "b", "c").subList(0, n)) + ") { } ";
                String call = "(" + String.join(", ", List.of("1", "2", "3").subList(0, m)) + ")";
                if (n == m) {
                    fine("def f" + def + "def main() { f" + call + "; put f" + call + "; }");
                    fine("def main() { f" + call + "; } def f" + def);
                } else {
                    noticed(ARGUMENTS, "def f" + def + "def main() { @f" + call + "; }");
                    noticed(ARGUMENTS, "def f" + def + "def main() { put 1 + @f" + call + "; }");
                    noticed(ARGUMENTS, "def main() { f" + call + "; } def @f" + def);
                    noticed(ARGUMENTS, "def f" + def + "def main() { @f" + call + " 1");
                    noticed(SYNTAX, "def f" + def + "def main() { f" + call + "@$");
                    noticed(ARGUMENTS, "def main() { f" + call + "; } def @f" + def.replace("{ } ", "1"));
                    noticed(SYNTAX, "def main() { f" + call + "; } def f" + def.replace(" { } ", "@$"));
                }
            }
        }
        // more E's than a def can have parameters are refused by their number alone, and only when the def comes
        noticed(LARGE, "def main() { f(" + Due.repeat("1,", 20) + "1); } def f(" + parameters(20) + ", @z) { }");
        noticed(ARGUMENTS, "def main() { f(" + Due.repeat("1,", 20) + "1); } def @f(" + parameters(20) + ") { }");
        noticed(MISSING, "def main() { @f(" + Due.repeat("1,", 20) + "1); }");
    }

    private static void missingDefs() {
        Due.says("4 MISSING: behind all, the first proc without a def (at the first NAME that called it).");
        fine("def main() { f(); g(); } def g() { } def f() { }");
        noticed(MISSING, "def main() { f(); @g(); f(); g(); } def f() { }");
        noticed(MISSING, "def main() { @f(); g(); f(); g(); } def g() { }");
        noticed(MISSING, "def main() { @f(); g(); }");
        noticed(MISSING, "def main() { g(@f()); }");
        noticed(MISSING, "def k() { @f(); f(); }");
        noticed(SYNTAX, "def main() { f(); } @;");
        noticed(NAME, "def main() { f(); put @x; }");
        noticed(MISSING, "def k() { @main(); }");
    }

    private static void noMain() {
        Due.says("5 MAIN: behind that, no main without parameters (at the text's length).");
        fine("def main() { }");
        noticed(MAIN, "def main(a) { }@");
        noticed(MAIN, "def main(a) { } # \n @");
        noticed(MAIN, "def maina() { } def mai() { } var main;@");
        noticed(MAIN, "def k() { main(1); } def main(a) { }@");
        noticed(MISSING, "def k() { @g(); } def main(a) { }");
        noticed(MAIN, "@");
        noticed(MAIN, Due.repeat(" ", 8000) + "@");
    }

    private static String defs(int n) {
        StringBuilder all = new StringBuilder();
        for (int i = 0; i < n; i++) {
            all.append("def ").append(Due.name("p", i)).append("(){}");
        }
        return all.toString();
    }

    private static void procs() {
        Due.says("6 LARGE: a 61st proc (at its NAME, as PROCS are numbered);");
        fine(defs(59) + "def main() { }");
        fine("def main() { }" + defs(59));
        fine("def main() { " + Due.name("p", 0) + "(); " + Due.name("p", 58) + "(); }" + defs(59));
        noticed(LARGE, defs(60) + "def @main() { }");
        noticed(LARGE, "def main() { }" + defs(59) + "def @f() { }");
        noticed(LARGE, "def main() { }" + defs(58) + "def f() { @g(); }");
        noticed(LARGE, "def main() { }" + defs(58) + "def f() { f(@g()); }");
        noticed(LARGE, "def main() { }" + defs(59) + "def @f 1");
        noticed(SYNTAX, "def main() { }" + defs(59) + "def f@$");
        noticed(LARGE, "def main() { }" + defs(58) + "def f() { @g() 1");
        noticed(SYNTAX, "def main() { }" + defs(58) + "def f() { g()@$");
        noticed(SYNTAX, "def main() { }" + defs(58) + "def f() { g(@;");
        noticed(MISSING, "def main() { }" + defs(57) + "def f() { @g(); }");
        noticed(NAME, "def main() { }" + defs(59) + "def @paa() { }");
        noticed(ARGUMENTS, "def main() { }" + defs(58) + "def f() { @paa(1); }");
    }

    private static void numbersOfVars() {
        Due.says("a var's number that is 0 or above 8000 (at it, as its turn comes);");
        for (String number : new String[] {"1", "8000", "000000001", "000008000", "' '", "'~'"}) {
            fine("var a[" + number + "]; def main() { put a[0]; }");
        }
        for (String number : new String[] {"0", "8001", "000000000", "000008001", "999999999", "10000"}) {
            noticed(LARGE, "var a[@" + number + "]; def main() { }");
            noticed(LARGE, "var a[@" + number + "$");
            noticed(LARGE, "var a[@" + number);
        }
        noticed(SYNTAX, "var a[8000@$");
        noticed(NAME, "var a; var @a[0];");
        noticed(SYNTAX, "var a@(0);");
    }

    private static String vars(int n) {
        StringBuilder all = new StringBuilder();
        for (int i = 0; i < n; i++) {
            all.append("var ").append(Due.name("x", i)).append(";");
        }
        return all.toString();
    }

    private static void vars() {
        Due.says("a 61st var (at its NAME, behind the token behind its ;), and then vars that have more than 20000 "
            + "words together (at the NAME);");
        fine(vars(60) + "def main() { }");
        fine(vars(59) + "def main() { } var a[8000];");
        noticed(LARGE, vars(60) + "var @a; def main() { }");
        noticed(LARGE, vars(60) + "def main() { } var @a[8000];");
        noticed(LARGE, vars(60) + "var @a;");
        noticed(SYNTAX, vars(60) + "var a;@$");
        noticed(SYNTAX, vars(60) + "var a@");
        noticed(LARGE, vars(60) + "var a[@8001];");
        noticed(NAME, vars(60) + "var @xaa;");
        String most = "var a[8000]; var b[8000]; ";
        fine(most + "var c[4000]; def main() { }");
        fine(most + "var c[3999]; var d; def main() { }");
        fine(most + "var c[3998]; var d; var e[1]; def main() { }");
        noticed(LARGE, most + "var @c[4001]; def main() { }");
        noticed(LARGE, most + "var c[4000]; var @d; def main() { }");
        noticed(LARGE, most + "var c[4000]; def main() { } var @d[1];");
        noticed(LARGE, most + "var @c[8000]; 1");
        noticed(SYNTAX, most + "var c[4001];@$");
        noticed(SYNTAX, most + "var c[4001]@}");
        noticed(LARGE, most + "var c[3941]; " + vars(57) + "var @d[3]; def main() { }");
        SelfHouse x = Due.house(most + "var c[3999]; var d; def main() { }");
        Due.due("ROOM", x.word(0, 2), 20000);
    }

    private static String parameters(int n) {
        StringBuilder all = new StringBuilder();
        for (int i = 0; i < n; i++) {
            all.append(i == 0 ? "" : ",").append(Due.name("k", i));
        }
        return all.toString();
    }

    private static String lets(int from, int to) {
        StringBuilder all = new StringBuilder();
        for (int i = from; i < to; i++) {
            all.append("let ").append(Due.name("k", i)).append(" = ").append(i).append("; ");
        }
        return all.toString();
    }

    private static void ownNames() {
        Due.says("a 21st own name of a def (at it, as it is told: a parameter behind the token behind it, a let's behind "
            + "its code);");
        fine("def f(" + parameters(20) + ") { } def main() { }");
        fine("def main() { " + lets(0, 20) + "}");
        fine("def f(" + parameters(7) + ") { " + lets(7, 20) + "} def main() { " + lets(0, 20) + "}");
        noticed(LARGE, "def f(" + parameters(20) + ", @z) { } def main() { }");
        noticed(LARGE, "def f(" + parameters(20) + ", @z");
        noticed(SYNTAX, "def f(" + parameters(20) + ", z@$");
        noticed(SYNTAX, "def f(" + parameters(20) + ",@");
        noticed(NAME, "def f(" + parameters(20) + ", @kat");
        noticed(LARGE, "def main() { " + lets(0, 20) + "let @z = 1; }");
        noticed(LARGE, "def main() { " + lets(0, 20) + "let @z = 1;");
        noticed(SYNTAX, "def main() { " + lets(0, 20) + "let z = 1;@$");
        noticed(SYNTAX, "def main() { " + lets(0, 20) + "let z = 1@");
        noticed(NAME, "def main() { " + lets(0, 20) + "let z = @x;");
        noticed(NAME, "def main() { " + lets(0, 20) + "let @kaa = 1;");
        noticed(LARGE, "def f(" + parameters(7) + ") { " + lets(7, 20) + "if 1 { let @z = 1; } }");
        // behind its code: the word 2 is put ahead of the name, its number behind it
        noticed(LARGE, "def f(" + parameters(20) + ") { " + filler(5998) + "let z = 1; @}");
        noticed(LARGE, "def f(" + parameters(20) + ") { " + filler(5997) + "let @z = 1; }");
        noticed(LARGE, "def f(" + parameters(19) + ") { " + filler(5997) + "let z = 1; @}");
    }

    /** Lines that have so many words of code. */
    private static String filler(int words) {
        int k = words / 3;
        return (k == 0 ? "" : "put 1" + Due.repeat("+1", k - 1) + "; ") + Due.repeat("stop; ", words % 3);
    }

    /** Each @ is the place that is due when the next word of these lines is the 6001st. */
    private static void wordByWord(String marked) {
        List<Integer> places = new ArrayList<>();
        StringBuilder bare = new StringBuilder();
        for (char c : marked.toCharArray()) {
            if (c == '@') {
                places.add(bare.length());
            } else {
                bare.append(c);
            }
        }
        for (int word = 0; word < places.size(); word++) {
            int place = places.get(word);
            noticed(LARGE, "var v; var w[5]; def main() { let a = 1; " + filler(6000 - 4 - word)
                + bare.substring(0, place) + "@" + bare.substring(place));
        }
    }

    private static void wordsOfCode() {
        Due.says("a 6001st word of code (at the token that was read last).");
        String[] lines = {"put @@1; @}", "put @@'a'; @}", "put @get; @}", "put a@@; @}", "a = @@1; @@}", "put v@@; @}",
            "v = @@1; @@}", "put w[@@1]@@@; @}", "w[@@1] = @@2; @@@}", "put -@@1@; @}", "put --@@1@@; @}",
            "put (@@1); @}", "let b = @@1; @@}", "f(@@1)@@; @}", "f()@@; @}", "put f(@@1, @@2)@@; @}", "return @@1; @}",
            "stop; @}", "if @@1 @@{ stop; @}", "if @@1 @@{ } stop; @}",
            "if @@1 @@{ stop; @} else @@{ stop; @}", "while @@1 @@{ } @@stop; @}", "} @@@def f() { } @@@"};
        for (String line : lines) {
            wordByWord(line);
        }
        for (String sign : new String[] {"+", "-", "*", "/", "%", "==", "!=", "<", "<=", ">", ">="}) {
            wordByWord("put @@1 " + sign + " @@2@; @}");
        }
        fine("def main() { " + filler(5997) + "}");
        noticed(LARGE, "def main() { " + filler(5998) + "}@");
        Due.due("words", Due.house("def main() { " + filler(5997) + "}").size(0), 6008);
    }

    private static void allAtTheirMost() {
        Due.says("Words of code, numbered from 0 on, are put as soon as what is told ahead of them has been read (and "
            + "the token behind it):");
        String text = "var a[8000];var b[8000];var c[3943];" + vars(57) + defs(58) + "def f(" + parameters(20)
            + "){return kat;}def main(){" + filler(6000 - 58 * 3 - 6 - 46 - 3) + "put f(" + Due.repeat("7,", 19)
            + Due.repeat("(", 28) + "9" + Due.repeat(")", 28) + "); stop; stop; stop; }";
        fine(text);
        SelfHouse x = Due.house(text);
        Due.due("words", x.size(0), 5 + 180 + 6000);
        Due.due("ROOM", x.word(0, 2), 20000);
        Due.due("procs", x.word(0, 3), 60);
        Due.due("main", x.word(0, 4), 59);
        Due.due("begin(0, -1)", x.begin(0, -1), true);
        Due.due("step", x.step(1000000) > 3000, true);
        Due.due("state(0)", x.state(0), 2);
        Due.due("memory(19999)", x.memory(19999), 0);
    }
}
