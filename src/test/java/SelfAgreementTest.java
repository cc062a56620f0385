import java.util.Random;

/** Promises 4, 6, 7, 12, 13, 18 and 19 together: SELF, run by the machine, is the compiler that the class is. */
public final class SelfAgreementTest {
    private static final String[] PARTS = {
        "var", "def", "let", "if", "else", "while", "return", "put", "get", "stop", "a", "b", "c", "main", "f",
        "(", ")", "{", "}", "[", "]", ",", ";", "=", "+", "-", "*", "/", "%", "<", ">", "==", "!=", "<=", ">=",
        "0", "1", "12", "8000", "'a'", "#", "\n", " ", "'", "!", "$", "\0", "\u00ff", "abcdefg", "1234567890"
    };

    private final Random random = new Random(20261116);
    private int depth;

    public static void main(String[] args) {
        selfMakesItself();
        new SelfAgreementTest().programsAndTheirBrokenOnes();
        Due.end();
    }

    private static void selfMakesItself() {
        SelfHouse x = new SelfHouse();
        x.self(1);
        Due.due("compile(1, 0)", x.compile(1, 0), 2654);
        for (int d = 1; d < 6; d++) {
            Due.due("begin", x.begin(d - 1, 1), true);
            Due.due("step", x.step(1000000), 834763);
            Due.due("state(0)", x.state(0), 2);
            Due.due("state(6)", x.state(6), 7110);
            Due.due("take", x.take(d), 2654);
            Due.due("differ", x.differ(0, d), -1);
        }
    }

    private void programsAndTheirBrokenOnes() {
        for (int i = 0; i < 400; i++) {
            String text = program();
            Due.agree(text);
            for (int k = 0; k < 6; k++) {
                Due.agree(broken(text));
            }
        }
    }

    private String broken(String text) {
        StringBuilder b = new StringBuilder(text);
        for (int times = 1 + random.nextInt(2); times > 0; times--) {
            int from = random.nextInt(b.length() + 1);
            int to = Math.min(b.length(), from + random.nextInt(4));
            if (random.nextInt(3) == 0) {
                b.delete(from, to);
            } else {
                b.replace(from, random.nextBoolean() ? from : to, PARTS[random.nextInt(PARTS.length)]);
            }
        }
        return b.length() > 8000 ? b.substring(0, 8000) : b.toString();
    }

    private String program() {
        StringBuilder b = new StringBuilder("var a; var b[7]; var c;\n");
        int defs = random.nextInt(3);
        for (int i = 0; i < defs; i++) {
            b.append("def ").append((char) ('f' + i)).append("(x) { let y = x; ").append(lines(2)).append("}\n");
        }
        return b.append("def main() { let x = 1; let y = 2; ").append(lines(3)).append("} # end").toString();
    }

    private String lines(int most) {
        StringBuilder b = new StringBuilder();
        for (int n = random.nextInt(most + 1); n > 0; n--) {
            b.append(line()).append(random.nextBoolean() ? " " : "\n");
        }
        return b.toString();
    }

    private String line() {
        if (depth > 3) {
            return "stop;";
        }
        depth++;
        String made;
        switch (random.nextInt(9)) {
            case 0:
                made = "if " + e() + " { " + lines(2) + "}";
                break;
            case 1:
                made = "if " + e() + " { " + lines(2) + "} else { " + lines(2) + "}";
                break;
            case 2:
                made = "while " + e() + " { " + lines(2) + "}";
                break;
            case 3:
                made = "return " + e() + ";";
                break;
            case 4:
                made = "b[" + e() + "] = " + e() + ";";
                break;
            case 5:
                made = "put " + e() + ";";
                break;
            case 6:
                made = "f(" + e() + ");";
                break;
            default:
                made = "axyc".charAt(random.nextInt(4)) + "=" + e() + ";";
                break;
        }
        depth--;
        return made;
    }

    private String e() {
        depth++;
        String made = depth > 6 ? "1" : madeE();
        depth--;
        return made;
    }

    private String madeE() {
        String[] signs = {"+", "-", "*", "/", "%", "==", "!=", "<", "<=", ">", ">="};
        switch (random.nextInt(10)) {
            case 0:
                return "get";
            case 1:
                return "-" + e();
            case 2:
                return "b[" + e() + "]";
            case 3:
                return "f(" + e() + ")";
            case 4:
            case 5:
                return "(" + e() + " " + signs[random.nextInt(signs.length)] + " " + e() + ")";
            case 6:
                return String.valueOf(random.nextInt(1000000000));
            case 7:
                return "'" + (char) (32 + random.nextInt(95)) + "'";
            default:
                return String.valueOf("axyc".charAt(random.nextInt(4)));
        }
    }
}
