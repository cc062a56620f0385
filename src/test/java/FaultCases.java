/** Texts that are noticed, or fine. An @ marks the place that is due; it is no part of the text. */
abstract class FaultCases {
    static final int SYNTAX = 1;
    static final int NAME = 2;
    static final int ARGUMENTS = 3;
    static final int MISSING = 4;
    static final int MAIN = 5;
    static final int LARGE = 6;

    static void noticed(int kind, String marked) {
        int place = marked.indexOf('@');
        String text = marked.substring(0, place) + marked.substring(place + 1);
        SelfHouse x = Due.house(text);
        String shown = marked.length() > 300 ? marked.substring(0, 300) + ".." : marked;
        Due.due("fault(0) of " + shown, x.fault(0), kind);
        Due.due("fault(1) of " + shown, x.fault(1), place);
        Due.due("size(0) of " + shown, x.size(0), 0);
        Due.agree(text);
    }

    static void fine(String text) {
        SelfHouse x = Due.house(text);
        String shown = text.length() > 300 ? text.substring(0, 300) + ".." : text;
        Due.due("fault(0) of " + shown, x.fault(0), 0);
        Due.due("fault(1) of " + shown, x.fault(1), -1);
        Due.due("size(0) of " + shown + " is above 0", x.size(0) > 0, true);
        Due.agree(text);
    }

    /** In main, with a var v and w of five words. */
    static void inMain(int kind, String marked) {
        noticed(kind, "var v; var w[5]; def main() { " + marked + " }");
    }

    static void fineInMain(String lines) {
        fine("var v; var w[5]; def main() { " + lines + " }");
    }
}
