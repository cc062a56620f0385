/**
 * All that can be seen of a house, so that two moments, or two houses, can be held against each other. It asks more
 * than the 512 calls that are promised: the class counts no calls, and else not all could be seen.
 */
final class Seen {
    private interface Row {
        int at(int i);
    }

    private Seen() {
    }

    static String all(SelfHouse x) {
        return "outcome " + x.state(0) + " tape " + x.state(7) + " fault " + x.fault(0) + " at " + x.fault(1) + " "
            + texts(x) + codes(x) + machine(x);
    }

    static String texts(SelfHouse x) {
        StringBuilder all = new StringBuilder();
        for (int s = 0; s < 4; s++) {
            int text = s;
            all.append("text ").append(s).append(' ').append(print(8001, i -> x.text(text, i)));
        }
        return all.toString();
    }

    static String codes(SelfHouse x) {
        StringBuilder all = new StringBuilder();
        for (int d = 0; d < 6; d++) {
            int code = d;
            all.append("code ").append(d).append(" of ").append(x.size(d)).append(' ')
                .append(print(8001, i -> x.word(code, i)));
        }
        return all.toString();
    }

    /** Of the machine all but its outcome. */
    static String machine(SelfHouse x) {
        StringBuilder all = new StringBuilder();
        for (int what = 1; what <= 6; what++) {
            all.append("state ").append(what).append(" is ").append(x.state(what)).append(' ');
        }
        return all.append("tops ").append(print(2001, x::top)).append("memory ").append(print(20001, x::memory))
            .append("own ").append(print(21, x::own)).append("output ").append(print(8001, x::output)).toString();
    }

    /** Short, and another one when a single word is another one. */
    private static String print(int length, Row row) {
        long sum = 7919;
        for (int i = 0; i < length; i++) {
            sum = sum * 6364136223846793005L + row.at(i) + 1;
        }
        return Long.toHexString(sum) + " ";
    }
}
