/** Part II at its edges: where a token ends, which bytes begin one, what is blank. */
public final class EdgesOfTokensTest extends FaultCases {
    private static final String[] KEYS = {"var", "def", "let", "if", "else", "while", "return", "put", "get", "stop"};

    public static void main(String[] args) {
        namesOfSixLetters();
        namesEndWhereNoSmallLetterStands();
        numbersOfNineDigits();
        characters();
        charactersAtTheEnd();
        everyByteThatMayBeginAToken();
        signsOfTwo();
        blanks();
        remarks();
        keysAreNoNames();
        Due.end();
    }

    /** The words of main's code without the 0 0 23 at its end. */
    private static String words(String lines) {
        SelfHouse x = Due.house("var v; var w[5]; def main() { " + lines + " }");
        StringBuilder all = new StringBuilder();
        for (int i = 8; i < x.size(0) - 3; i++) {
            all.append(i == 8 ? "" : " ").append(x.word(0, i));
        }
        return all.toString();
    }

    private static void namesOfSixLetters() {
        Due.says("a NAME: a small letter and the small letters behind it, as many as stand there, 6 at most;");
        for (String name : new String[] {"a", "z", "az", "zzzzz", "aaaaaa", "zzzzzz", "abcdef"}) {
            fine("var " + name + "; def main() { }");
            fine("def " + name + "() { } def main() { " + name + "(); }");
            fine("def f(" + name + ") { put " + name + "; } def main() { let " + name + " = 1; }");
        }
        for (String name : new String[] {"aaaaaa@a", "zzzzzz@z", "abcdef@g", "abcdef@ghij", "return@s", "whilex@y"}) {
            noticed(SYNTAX, "var " + name + "; def main() { }");
            noticed(SYNTAX, "def " + name + "() { } def main() { }");
            noticed(SYNTAX, "def f(" + name + ") { } def main() { }");
            inMain(SYNTAX, "let " + name + " = 1;");
            inMain(SYNTAX, "put " + name + ";");
            inMain(SYNTAX, name + " = 1;");
        }
        // names that differ in one letter, or in how many they have, are two
        fine("var a; var aa; var aaaaa; var aaaaaa; var aaaaab; var baaaaa; def main() { }");
        noticed(NAME, "var aaaaab; var aaaaaa; var @aaaaab; def main() { }");
    }

    private static void namesEndWhereNoSmallLetterStands() {
        Due.says("a NAME: a small letter and the small letters behind it, as many as stand there,");
        Due.due("v*v", words("put v*v;"), "3 0 3 0 9 24");
        Due.due("v<v", words("v=v<v;"), "3 0 3 0 15 4 0");
        inMain(SYNTAX, "put v@1;");
        inMain(SYNTAX, "put v@A;");
        inMain(SYNTAX, "put v@`;");
        inMain(SYNTAX, "put v@{;");
        inMain(SYNTAX, "put v@Z;");
        inMain(SYNTAX, "put v@_v;");
        inMain(NAME, "put @vv;");
        inMain(NAME, "@putv;");
    }

    private static void numbersOfNineDigits() {
        Due.says("a NUMBER: digits, as many as stand there, 9 at most;");
        Due.due("0", words("put 0;"), "0 0 24");
        Due.due("9", words("put 9;"), "0 9 24");
        Due.due("12345678", words("put 12345678;"), "0 12345678 24");
        Due.due("999999999", words("put 999999999;"), "0 999999999 24");
        Due.due("100000000", words("put 100000000;"), "0 100000000 24");
        Due.due("000000001", words("put 000000001;"), "0 1 24");
        inMain(SYNTAX, "put 999999999@9;");
        inMain(SYNTAX, "put 000000000@1;");
        inMain(SYNTAX, "put 100000000@000;");
        noticed(SYNTAX, "var a[000008000@0];");
        inMain(SYNTAX, "put 1@a;");
        inMain(SYNTAX, "put 1 @2;");
        inMain(SYNTAX, "put 1@:;");
        Due.due("1/2", words("put 1/2;"), "0 1 0 2 10 24");
        Due.due("12345678 9", words("put 123456789/123456789;"), "0 123456789 0 123456789 10 24");
    }

    private static void characters() {
        Due.says("a CHARACTER: ' and a byte 32 .. 126 and ' : a number, that byte;");
        for (int b = 0; b < 256; b++) {
            if (b >= 32 && b <= 126) {
                Due.due("the CHARACTER " + b, words("put '" + (char) b + "';"), "0 " + b + " 24");
            } else {
                inMain(SYNTAX, "put '@" + (char) b + "';");
            }
            if (b != 39 && b != '@') {
                inMain(SYNTAX, "put 'a@" + (char) b + "';");
            }
        }
        fine("var a[' ']; var b['~']; def main() { }");
        Due.due("'''", words("put ''';"), "0 39 24");
        Due.due("'a'+'b'", words("put 'a'+'b';"), "0 97 0 98 7 24");
        inMain(SYNTAX, "put 'a'@'b';");
        inMain(SYNTAX, "put ''@ ';");
    }

    private static void charactersAtTheEnd() {
        Due.says("in a CHARACTER the byte that isn't 32 .. 126, or the one that should be the second ' (at it; the "
            + "text's length at its end);");
        noticed(SYNTAX, "def main() { put '@");
        noticed(SYNTAX, "def main() { put 'a@");
        noticed(SYNTAX, "def main() { put ''@");
        noticed(SYNTAX, "def main() { put '''@");
        noticed(SYNTAX, "def main() { put '@\n");
        noticed(SYNTAX, "def main() { put 'a@\n");
        noticed(SYNTAX, "def main() { put 'a@\"';");
        noticed(SYNTAX, "def main() { put '@\u001f");
        noticed(SYNTAX, "def main() { put '@\u007f");
        fineInMain("put ' '; put '~';");
    }

    private static void everyByteThatMayBeginAToken() {
        Due.says("the signs ( ) { } [ ] , ; = + - * / % < > and == != <= >=");
        for (int b = 0; b < 256; b++) {
            char c = (char) b;
            SelfHouse x = Due.house("def main() { put get " + c + "$");
            Due.due("fault(0), byte " + b, x.fault(0), SYNTAX);
            Due.due("fault(1), byte " + b, x.fault(1), placeBehindGet(c));
            Due.agree("def main() { put get " + c + "$");
            if ("(){}[],;=+-*/%<> \n#'@".indexOf(c) < 0 && (c < 'a' || c > 'z') && (c < '0' || c > '9')) {
                noticed(SYNTAX, "@" + c);
                noticed(SYNTAX, "var a@" + c);
            }
        }
        theBytesThatBeginNone();
    }

    /** What is noticed when this byte and a $ end a text, the byte being at 21. */
    private static int placeBehindGet(char c) {
        if (c == '#' || c == '\'') {
            return 23;
        }
        return "+-*/%<>; \n".indexOf(c) >= 0 ? 22 : 21;
    }

    private static void theBytesThatBeginNone() {
        Due.says("a byte that begins no token, a ! without = (at it);");
        for (char c : "\t\r\u000b\u001f!\"$&.:?AZ\\^_`|~\u007f\u0080\u00ff".toCharArray()) {
            inMain(SYNTAX, "put 1 @" + c + " 2;");
            inMain(SYNTAX, "put 1@" + c);
            noticed(SYNTAX, "def main() { put 1 @" + c);
        }
        inMain(SYNTAX, "put 1 @! = 2;");
        inMain(SYNTAX, "put 1 @!! = 2;");
        fineInMain("put 1 != 2;");
    }

    private static void signsOfTwo() {
        Due.says("(of = ! < > and = behind it always the two).");
        Due.due("==", words("put 1==2;"), "0 1 0 2 13 24");
        Due.due("!=", words("put 1!=2;"), "0 1 0 2 14 24");
        Due.due("<=", words("put 1<=2;"), "0 1 0 2 16 24");
        Due.due(">=", words("put 1>=2;"), "0 1 0 2 18 24");
        Due.due("< and >", words("put 1<2; put 1>2;"), "0 1 0 2 15 24 0 1 0 2 17 24");
        inMain(SYNTAX, "v @== 1;");
        fineInMain("v = 1;");
        inMain(SYNTAX, "v = @= 1;");
        inMain(SYNTAX, "put 1 @= = 1;");
        inMain(SYNTAX, "put 1 ==@= 1;");
        inMain(SYNTAX, "put 1 ==@== 1;");
        inMain(SYNTAX, "put 1 < @= 1;");
        inMain(SYNTAX, "put 1 > @= 1;");
        inMain(SYNTAX, "put 1 <@> 1;");
        inMain(SYNTAX, "put 1 >=@= 1;");
        inMain(SYNTAX, "put 1 <@< 1;");
        inMain(SYNTAX, "put 1 @=< 1;");
        inMain(SYNTAX, "put 1 +@= 1;");
        inMain(SYNTAX, "put 1 @=! 1;");
    }

    private static void blanks() {
        Due.says("Between them BLANKS: bytes 32 and 10,");
        String[] parts = {"var", " v", ";", "def", " main", "(", ")", "{", "put", " v", "+", "1", ";", "}"};
        for (String blank : new String[] {"", " ", "\n", "  ", "\n\n", " \n "}) {
            SelfHouse x = Due.house(String.join(blank, parts) + blank);
            Due.due("fault(0)", x.fault(0), 0);
            Due.due("words", Due.words(x, 0), "7919 17 1 1 0 0 0 0 3 0 0 1 7 24 0 0 23");
        }
        for (int b : new int[] {0, 9, 11, 13, 31, 33, 127, 160}) {
            noticed(SYNTAX, "@" + (char) b + "def main() { }");
            noticed(SYNTAX, "def main() { }@" + (char) b);
            noticed(SYNTAX, "def@" + (char) b + "main() { }");
        }
        noticed(MAIN, " \n \n@");
    }

    private static void remarks() {
        Due.says("and what stands from a # up to the next byte 10 or the end.");
        StringBuilder bytes = new StringBuilder("#");
        for (int b = 0; b < 256; b++) {
            bytes.append(b == 10 ? "" : (char) b);
        }
        fine(bytes + "\ndef main() { }");
        fine("def main() { }" + bytes);
        fine("def main() { }#");
        fine("#\ndef main() { }");
        noticed(MAIN, bytes.toString().replace("@", "") + "def main() { }@");
        noticed(MAIN, "#@");
        noticed(MAIN, "#\n@");
        noticed(SYNTAX, "#\n@1");
        noticed(SYNTAX, "## #\n@$");
        noticed(SYNTAX, "def main() { # }@");
        Due.due("a remark inside a line", words("put 1 # + 2\n + 3;"), "0 1 0 3 7 24");
        Due.due("a remark between letters", words("put v#v\n;"), "3 0 24");
        Due.due("# as a CHARACTER", words("put '#';"), "0 35 24");
        inMain(SYNTAX, "put 1 @=#\n= 2;");
        inMain(SYNTAX, "put 12#\n@3;");
    }

    private static void keysAreNoNames() {
        Due.says("KEYS are var def let if else while return put get stop: no names.");
        for (String key : KEYS) {
            noticed(SYNTAX, "var @" + key + "; def main() { }");
            noticed(SYNTAX, "def @" + key + "() { } def main() { }");
            noticed(SYNTAX, "def f(@" + key + ") { } def main() { }");
            noticed(SYNTAX, "def f(a, @" + key + ") { } def main() { }");
            inMain(SYNTAX, "let @" + key + " = 1;");
            if (!key.equals("get")) {
                inMain(SYNTAX, "put @" + key + ";");
            }
            for (String name : new String[] {key.substring(1), key.substring(0, key.length() - 1), "x" + key,
                key + "x", key.substring(0, key.length() - 1) + "z", "z" + key.substring(1)}) {
                if (name.length() <= 6) {
                    fine("var " + name + "; def " + name + "(a) { } def main() { let " + name + " = 1; " + name
                        + " = " + name + "; }");
                }
            }
        }
    }
}
