import java.util.Arrays;

/**
 * A house for a small language, its compiler, and that compiler written in the language itself.
 *
 * <p>No call throws: every index, divisor and reference is looked at ahead of its use, and all arrays lie
 * in rows that are made once, with the object.
 */
public final class SelfHouse {
    public static final int NONE = -1;

    private static final int TEXTS = 4;
    private static final int CODES = 6;
    private static final int MOST_BYTES = 8000;
    private static final int MOST_WORDS = 8000;
    private static final int BYTES_A_FEED = 20;
    private static final int MOST_STEPS_A_CALL = 1000000;
    private static final int NO_SUCH_CODE = -2;

    private static final int NEW_LINE = 10;
    private static final int BLANK = 32;

    private static final int MOST_PROCS = 60;
    private static final int MOST_VARS = 60;
    private static final int MOST_OWN = 20;
    private static final int MOST_ROOM = 20000;

    private static final int CODE_MARK = 7919;
    private static final int HEAD_WORDS = 5;
    private static final int WORDS_A_PROC = 3;
    private static final int AT_ROOM = 2;
    private static final int AT_PROCS = 3;
    private static final int AT_MAIN = 4;

    private static final int OP_NUMBER = 0;
    private static final int OP_OWN = 1;
    private static final int OP_SET_OWN = 2;
    private static final int OP_VAR = 3;
    private static final int OP_SET_VAR = 4;
    private static final int OP_ITEM = 5;
    private static final int OP_SET_ITEM = 6;
    private static final int OP_ADD = 7;
    private static final int OP_SUBTRACT = 8;
    private static final int OP_MULTIPLY = 9;
    private static final int OP_DIVIDE = 10;
    private static final int OP_REMAINDER = 11;
    private static final int OP_NEGATE = 12;
    private static final int OP_EQUAL = 13;
    private static final int OP_UNEQUAL = 14;
    private static final int OP_BELOW = 15;
    private static final int OP_NOT_ABOVE = 16;
    private static final int OP_ABOVE = 17;
    private static final int OP_NOT_BELOW = 18;
    private static final int OP_GO = 19;
    private static final int OP_GO_IF_ZERO = 20;
    private static final int OP_CALL = 21;
    private static final int OP_DROP = 22;
    private static final int OP_RETURN = 23;
    private static final int OP_PUT = 24;
    private static final int OP_GET = 25;
    private static final int OP_STOP = 26;

    private final Row tape;
    private final Row[] texts;
    private final Row[] codes;
    private final Compiler compiler;
    private final Machine machine;

    public SelfHouse() {
        tape = new Row(MOST_BYTES);
        texts = new Row[TEXTS];
        for (int s = 0; s < texts.length; s++) {
            texts[s] = new Row(MOST_BYTES);
        }
        codes = new Row[CODES];
        for (int d = 0; d < codes.length; d++) {
            codes[d] = new Row(MOST_WORDS);
        }
        compiler = new Compiler();
        machine = new Machine();
    }

    public int feed(int a, int b, int c, int d, int e) {
        if (tape.count + BYTES_A_FEED > MOST_BYTES) {
            return NONE;
        }
        addBytes(a);
        addBytes(b);
        addBytes(c);
        addBytes(d);
        addBytes(e);
        return tape.count;
    }

    public int keep(int s, int n) {
        Row kept = textRow(s);
        if (kept == null || n < 0 || n > tape.count) {
            return NONE;
        }
        kept.copy(tape);
        kept.cut(n);
        tape.clear();
        return n;
    }

    public int self(int s) {
        Row row = textRow(s);
        if (row == null) {
            return NONE;
        }
        row.clear();
        SelfText.layInto(row);
        return row.count;
    }

    public int text(int s, int i) {
        Row row = textRow(s);
        return row != null && row.has(i) ? row.get(i) : NONE;
    }

    public int compile(int s, int d) {
        Row source = textRow(s);
        Row target = codeRow(d);
        if (source == null || target == null) {
            return NONE;
        }
        return compiler.translate(source, target) ? target.count : NONE;
    }

    public int fault(int what) {
        switch (what) {
            case 0:
                return compiler.noticed;
            case 1:
                return compiler.noticedAt;
            default:
                return NONE;
        }
    }

    public int size(int d) {
        Row row = codeRow(d);
        return row == null ? NONE : row.count;
    }

    public int word(int d, int i) {
        Row row = codeRow(d);
        return row == null ? 0 : row.get(i);
    }

    public boolean poke(int d, int i, int v) {
        Row row = codeRow(d);
        if (row == null || !row.has(i)) {
            return false;
        }
        row.set(i, v);
        return true;
    }

    public int differ(int a, int b) {
        Row one = codeRow(a);
        Row other = codeRow(b);
        if (one == null || other == null) {
            return NO_SUCH_CODE;
        }
        return one.firstUnlike(other);
    }

    public boolean begin(int d, int s) {
        Row code = codeRow(d);
        Row input = textRow(s);
        if (code == null || input == null && s != NONE) {
            return false;
        }
        return machine.load(code, input);
    }

    public int step(int n) {
        if (n < 0 || n > MOST_STEPS_A_CALL || machine.outcome == Machine.NOT_BEGUN) {
            return NONE;
        }
        return machine.run(n);
    }

    public int state(int what) {
        switch (what) {
            case 0:
                return machine.outcome;
            case 1:
                return machine.place;
            case 2:
                return machine.steps;
            case 3:
                return machine.pile.count;
            case 4:
                return machine.frames.count();
            case 5:
                return machine.output.count;
            case 6:
                return machine.taken;
            case 7:
                return tape.count;
            default:
                return NONE;
        }
    }

    public int top(int k) {
        return k < 0 ? 0 : machine.pile.get(machine.pile.count - 1 - k);
    }

    public int memory(int a) {
        return machine.memory.get(a);
    }

    public int own(int k) {
        return machine.frames.ownWord(k);
    }

    public int output(int i) {
        return machine.output.get(i);
    }

    public int take(int d) {
        Row row = codeRow(d);
        if (row == null || machine.outcome == Machine.NOT_BEGUN) {
            return NONE;
        }
        row.copy(machine.output);
        return row.count;
    }

    private void addBytes(int number) {
        tape.add(number >>> 24);
        tape.add(number >>> 16 & 255);
        tape.add(number >>> 8 & 255);
        tape.add(number & 255);
    }

    private Row textRow(int s) {
        return s >= 0 && s < texts.length ? texts[s] : null;
    }

    private Row codeRow(int d) {
        return d >= 0 && d < codes.length ? codes[d] : null;
    }

    /** Words, one behind the other, up to a number that is told when the row is made. */
    private static final class Row {
        private final int[] cells;
        int count;

        Row(int most) {
            cells = new int[Math.max(most, 0)];
        }

        boolean has(int i) {
            return i >= 0 && i < count && i < cells.length;
        }

        /** Word i, 0 when there is none. */
        int get(int i) {
            return i >= 0 && i < count && i < cells.length ? cells[i] : 0;
        }

        void set(int i, int v) {
            if (i >= 0 && i < count && i < cells.length) {
                cells[i] = v;
            }
        }

        void add(int v) {
            if (count >= 0 && count < cells.length) {
                cells[count] = v;
                count++;
            }
        }

        /** The last word, which is the row's no more; 0 when there is none. */
        int drop() {
            if (count <= 0 || count > cells.length) {
                return 0;
            }
            count--;
            return cells[count];
        }

        boolean isFull() {
            return count >= cells.length;
        }

        void clear() {
            count = 0;
        }

        /** Only the first n words stay. */
        void cut(int n) {
            if (n >= 0 && n < count) {
                count = n;
            }
        }

        void becomeZeros(int n) {
            count = Math.max(0, Math.min(n, cells.length));
            Arrays.fill(cells, 0, count, 0);
        }

        void copy(Row other) {
            count = Math.min(other.count, Math.min(other.cells.length, cells.length));
            System.arraycopy(other.cells, 0, cells, 0, count);
        }

        /** The first place of v, NONE when it has none. */
        int find(int v) {
            for (int i = 0; i < count && i < cells.length; i++) {
                if (cells[i] == v) {
                    return i;
                }
            }
            return NONE;
        }

        /** The first place at which the rows differ, NONE when they are alike. */
        int firstUnlike(Row other) {
            int both = Math.min(count, other.count);
            for (int i = 0; i < both; i++) {
                if (get(i) != other.get(i)) {
                    return i;
                }
            }
            return count == other.count ? NONE : both;
        }
    }

    /**
     * The tokens of a text, all read at once. A byte that is wrong by itself ends them as a token of its own,
     * so that it is noticed only as its turn comes.
     */
    private static final class Tokens {
        static final int END = 0;
        static final int NAME = 1;
        static final int NUMBER = 2;
        static final int SIGN = 3;
        static final int WRONG = 4;
        static final int VAR = 10;
        static final int DEF = 11;
        static final int LET = 12;
        static final int IF = 13;
        static final int ELSE = 14;
        static final int WHILE = 15;
        static final int RETURN = 16;
        static final int PUT = 17;
        static final int GET = 18;
        static final int STOP = 19;
        /** What a sign's value has more when a = stands behind it. */
        static final int WITH_EQUAL = 128;

        private static final int MOST_LETTERS = 6;
        private static final int MOST_DIGITS = 9;
        private static final int QUOTE = 39;
        private static final String SIGNS = "(){}[],;=+-*/%<>!";
        private static final String SIGNS_BEFORE_EQUAL = "=!<>";
        /** The values of the keys' letters, in the order of the kinds from VAR on. */
        private static final int[] KEYS = {
            16083, 3057, 8903, 249, 107681, 12387497, 261347000, 12251, 5258, 388978
        };

        final Row kinds;
        final Row values;
        final Row places;
        private Row bytes;
        private int at;

        Tokens() {
            kinds = new Row(MOST_BYTES + 1);
            values = new Row(MOST_BYTES + 1);
            places = new Row(MOST_BYTES + 1);
            bytes = new Row(0);
        }

        void readAll(Row source) {
            bytes = source;
            at = 0;
            kinds.clear();
            values.clear();
            places.clear();
            boolean more = true;
            for (int i = 0; more && i <= MOST_BYTES; i++) {
                skipBlanks();
                more = readToken();
            }
        }

        private int peek() {
            return bytes.has(at) ? bytes.get(at) : NONE;
        }

        private void skipBlanks() {
            boolean remark = false;
            for (; at < bytes.count; at++) {
                int c = bytes.get(at);
                remark = c != NEW_LINE && (remark || c == '#');
                if (!remark && c != NEW_LINE && c != BLANK) {
                    return;
                }
            }
        }

        /** False when no token can come behind this one. */
        private boolean readToken() {
            int c = peek();
            if (c == NONE) {
                put(END, 0, at);
                return false;
            }
            if (isLetter(c)) {
                return readName();
            }
            if (isDigit(c)) {
                return readNumber();
            }
            return c == QUOTE ? readCharacter() : readSign();
        }

        private boolean readName() {
            int from = at;
            int value = 0;
            for (int n = 0; n < MOST_LETTERS && isLetter(peek()); n++) {
                value = value * 27 + peek() - 'a' + 1;
                at++;
            }
            return isLetter(peek()) ? wrong() : put(kindOfName(value), value, from);
        }

        private boolean readNumber() {
            int from = at;
            int value = 0;
            for (int n = 0; n < MOST_DIGITS && isDigit(peek()); n++) {
                value = value * 10 + peek() - '0';
                at++;
            }
            return isDigit(peek()) ? wrong() : put(NUMBER, value, from);
        }

        private boolean readCharacter() {
            int from = at;
            at++;
            int value = peek();
            if (value < 32 || value > 126) {
                return wrong();
            }
            at++;
            if (peek() != QUOTE) {
                return wrong();
            }
            at++;
            return put(NUMBER, value, from);
        }

        private boolean readSign() {
            int from = at;
            int value = peek();
            if (SIGNS.indexOf((char) value) < 0) {
                return wrong();
            }
            boolean mayBeTwo = SIGNS_BEFORE_EQUAL.indexOf((char) value) >= 0;
            at++;
            if (mayBeTwo && peek() == '=') {
                at++;
                return put(SIGN, value + WITH_EQUAL, from);
            }
            if (value == '!') {
                at = from;
                return wrong();
            }
            return put(SIGN, value, from);
        }

        private boolean put(int kind, int value, int from) {
            kinds.add(kind);
            values.add(value);
            places.add(from);
            return true;
        }

        private boolean wrong() {
            put(WRONG, 0, at);
            return false;
        }

        private static boolean isLetter(int c) {
            return c >= 'a' && c <= 'z';
        }

        private static boolean isDigit(int c) {
            return c >= '0' && c <= '9';
        }

        private static int kindOfName(int value) {
            for (int i = 0; i < KEYS.length; i++) {
                if (KEYS[i] == value) {
                    return VAR + i;
                }
            }
            return NAME;
        }
    }

    /** The vars that have been told, and how many words they have together. */
    private static final class Vars {
        final Row names = new Row(MOST_VARS);
        final Row places = new Row(MOST_VARS);
        /** How many words, 0 for a var without a number. */
        final Row numbers = new Row(MOST_VARS);
        int words;

        void clear() {
            names.clear();
            places.clear();
            numbers.clear();
            words = 0;
        }

        void add(int name, int number) {
            names.add(name);
            places.add(words);
            numbers.add(number);
            words += Math.max(number, 1);
        }
    }

    /** The procs, as they are numbered. */
    private static final class Procs {
        final Row names = new Row(MOST_PROCS);
        /** Where the NAME stood that gave the proc its number. */
        final Row places = new Row(MOST_PROCS);
        /** How many parameters, NONE until that is known. */
        final Row parameters = new Row(MOST_PROCS);
        /** The place of the def's first word, NONE until there is a def. */
        final Row entries = new Row(MOST_PROCS);
        final Row owns = new Row(MOST_PROCS);

        void clear() {
            names.clear();
            places.clear();
            parameters.clear();
            entries.clear();
            owns.clear();
        }

        void add(int name, int place) {
            names.add(name);
            places.add(place);
            parameters.add(NONE);
            entries.add(NONE);
            owns.add(0);
        }
    }

    /**
     * Makes a text to a code. There are no exceptions here: once something has been noticed, every token seems
     * to be the END, no word of code is put and nothing more is noticed, so that all methods come to their end.
     */
    private static final class Compiler {
        private static final int SYNTAX = 1;
        private static final int NAME = 2;
        private static final int ARGUMENTS = 3;
        private static final int MISSING = 4;
        private static final int MAIN = 5;
        private static final int LARGE = 6;

        private static final int MOST_CODE = 6000;
        private static final int MOST_OPEN = 30;
        private static final int MOST_VAR_NUMBER = 8000;
        /** The value of the letters of main. */
        private static final int NAME_OF_MAIN = 256865;

        /** The kind of what was noticed, 0 if nothing; NONE ahead of any text. */
        int noticed = NONE;
        int noticedAt = NONE;

        private final Tokens tokens = new Tokens();
        private final Row words = new Row(MOST_CODE);
        private final Vars vars = new Vars();
        private final Procs procs = new Procs();
        private final Row ownNames = new Row(MOST_OWN);
        private int at;
        private int open;

        /** True when the code stands in target, which else is not touched. */
        boolean translate(Row source, Row target) {
            forgetAll();
            tokens.readAll(source);
            next();
            for (int i = 0; i <= MOST_BYTES && kind() != Tokens.END; i++) {
                if (kind() == Tokens.VAR) {
                    readVar();
                } else if (kind() == Tokens.DEF) {
                    readDef();
                } else {
                    notice(SYNTAX, from());
                }
            }
            int main = mainProc();
            if (isFine()) {
                writeCode(target, main);
            }
            return isFine();
        }

        private void forgetAll() {
            words.clear();
            vars.clear();
            procs.clear();
            ownNames.clear();
            noticed = 0;
            noticedAt = NONE;
            open = 0;
            at = NONE;
        }

        private int mainProc() {
            int main = NONE;
            for (int p = 0; p < procs.names.count; p++) {
                if (procs.entries.get(p) < 0) {
                    notice(MISSING, procs.places.get(p));
                }
                if (procs.names.get(p) == NAME_OF_MAIN && procs.parameters.get(p) == 0) {
                    main = p;
                }
            }
            if (main == NONE) {
                notice(MAIN, from());
            }
            return main;
        }

        private void writeCode(Row target, int main) {
            int count = procs.names.count;
            target.clear();
            target.add(CODE_MARK);
            target.add(HEAD_WORDS + WORDS_A_PROC * count + words.count);
            target.add(vars.words);
            target.add(count);
            target.add(main);
            for (int p = 0; p < count; p++) {
                target.add(procs.entries.get(p));
                target.add(procs.parameters.get(p));
                target.add(procs.owns.get(p));
            }
            for (int i = 0; i < words.count; i++) {
                target.add(words.get(i));
            }
        }

        private boolean isFine() {
            return noticed == 0;
        }

        private void notice(int what, int place) {
            if (noticed == 0) {
                noticed = what;
                noticedAt = place;
            }
        }

        private int kind() {
            return noticed == 0 ? tokens.kinds.get(at) : Tokens.END;
        }

        private int value() {
            return tokens.values.get(at);
        }

        private int from() {
            return tokens.places.get(at);
        }

        private boolean is(int sign) {
            return kind() == Tokens.SIGN && value() == sign;
        }

        private void next() {
            if (noticed == 0 && at + 1 < tokens.kinds.count) {
                at++;
                if (tokens.kinds.get(at) == Tokens.WRONG) {
                    notice(SYNTAX, from());
                }
            }
        }

        private void need(int sign) {
            if (is(sign)) {
                next();
            } else {
                notice(SYNTAX, from());
            }
        }

        private void needName() {
            if (kind() == Tokens.NAME) {
                next();
            } else {
                notice(SYNTAX, from());
            }
        }

        private void openSign() {
            if (open >= MOST_OPEN) {
                notice(SYNTAX, from());
            }
            open++;
            next();
        }

        private void emit(int word) {
            if (isFine() && words.isFull()) {
                notice(LARGE, from());
            }
            if (isFine()) {
                words.add(word);
            }
        }

        private void emitTwo(int word, int number) {
            emit(word);
            emit(number);
        }

        private void emitBehindLine(int word) {
            need(';');
            emit(word);
        }

        private void readVar() {
            next();
            int name = value();
            int place = from();
            int number = 0;
            needName();
            if (vars.names.find(name) >= 0) {
                notice(NAME, place);
            }
            if (is('[')) {
                next();
                number = readVarNumber();
                need(']');
            }
            need(';');
            if (vars.names.isFull()) {
                notice(LARGE, place);
            }
            if (isFine()) {
                vars.add(name, number);
            }
            if (vars.words > MOST_ROOM) {
                notice(LARGE, place);
            }
        }

        private int readVarNumber() {
            int number = value();
            if (kind() != Tokens.NUMBER) {
                notice(SYNTAX, from());
            } else if (number < 1 || number > MOST_VAR_NUMBER) {
                notice(LARGE, from());
            }
            next();
            return number;
        }

        private void readDef() {
            next();
            int name = value();
            int place = from();
            needName();
            int proc = numberOfProc(name, place);
            if (procs.entries.get(proc) >= 0) {
                notice(NAME, place);
            }
            procs.entries.set(proc, words.count);
            ownNames.clear();
            need('(');
            if (!is(')')) {
                readParameters();
            }
            need(')');
            agree(proc, ownNames.count, place);
            readBlock();
            emitTwo(OP_NUMBER, 0);
            emit(OP_RETURN);
            procs.owns.set(proc, ownNames.count);
        }

        private void readParameters() {
            readParameter();
            for (int i = 0; i <= MOST_BYTES && is(','); i++) {
                next();
                readParameter();
            }
        }

        private void readParameter() {
            int name = value();
            int place = from();
            needName();
            if (ownNames.find(name) >= 0) {
                notice(NAME, place);
            }
            tellOwn(name, place);
        }

        private void tellOwn(int name, int place) {
            if (ownNames.isFull()) {
                notice(LARGE, place);
            }
            ownNames.add(name);
        }

        /** The NAME's proc, which may be new; NONE when something has been noticed. */
        private int numberOfProc(int name, int place) {
            int proc = procs.names.find(name);
            if (proc < 0) {
                if (procs.names.isFull()) {
                    notice(LARGE, place);
                }
                proc = procs.names.count;
                if (isFine()) {
                    procs.add(name, place);
                }
            }
            return isFine() ? proc : NONE;
        }

        private void agree(int proc, int parameters, int place) {
            if (procs.parameters.get(proc) < 0) {
                procs.parameters.set(proc, parameters);
            }
            if (procs.parameters.get(proc) != parameters) {
                notice(ARGUMENTS, place);
            }
        }

        private void readBlock() {
            if (!is('{')) {
                notice(SYNTAX, from());
            }
            openSign();
            for (int i = 0; i <= MOST_BYTES && isFine() && !is('}'); i++) {
                readLine();
            }
            next();
            open--;
        }

        private void readLine() {
            switch (kind()) {
                case Tokens.LET:
                    readLet();
                    break;
                case Tokens.IF:
                    readIf();
                    break;
                case Tokens.WHILE:
                    readWhile();
                    break;
                case Tokens.RETURN:
                    next();
                    readE();
                    emitBehindLine(OP_RETURN);
                    break;
                case Tokens.PUT:
                    next();
                    readE();
                    emitBehindLine(OP_PUT);
                    break;
                case Tokens.STOP:
                    next();
                    emitBehindLine(OP_STOP);
                    break;
                default:
                    readNamedLine();
                    break;
            }
        }

        private void readLet() {
            next();
            int name = value();
            int place = from();
            needName();
            if (ownNames.find(name) >= 0) {
                notice(NAME, place);
            }
            need('=');
            readE();
            emitBehindLine(OP_SET_OWN);
            // not told sooner: the name is none in its own E
            tellOwn(name, place);
            emit(ownNames.count - 1);
        }

        private void readIf() {
            next();
            readE();
            emitTwo(OP_GO_IF_ZERO, 0);
            int hole = words.count - 1;
            readBlock();
            if (kind() == Tokens.ELSE) {
                next();
                emitTwo(OP_GO, 0);
                words.set(hole, words.count);
                hole = words.count - 1;
                readBlock();
            }
            words.set(hole, words.count);
        }

        private void readWhile() {
            next();
            int again = words.count;
            readE();
            emitTwo(OP_GO_IF_ZERO, 0);
            int hole = words.count - 1;
            readBlock();
            emitTwo(OP_GO, again);
            words.set(hole, words.count);
        }

        private void readNamedLine() {
            int name = value();
            int place = from();
            needName();
            if (is('(')) {
                readCall(name, place);
                emitBehindLine(OP_DROP);
            } else if (is('[')) {
                int v = readIndex(name, place);
                need('=');
                readE();
                emitBehindLine(OP_SET_ITEM);
                emitTwo(vars.places.get(v), vars.numbers.get(v));
            } else {
                readSetting(name, place);
            }
        }

        private void readSetting(int name, int place) {
            int own = ownNames.find(name);
            int target = own >= 0 ? own : placeOfPlainVar(name, place);
            need('=');
            readE();
            emitBehindLine(own >= 0 ? OP_SET_OWN : OP_SET_VAR);
            emit(target);
        }

        private int placeOfPlainVar(int name, int place) {
            int v = vars.names.find(name);
            if (v < 0 || vars.numbers.get(v) > 0) {
                notice(NAME, place);
            }
            return vars.places.get(v);
        }

        /** Reads [ E ] and tells which var the name is. */
        private int readIndex(int name, int place) {
            int v = vars.names.find(name);
            if (v < 0 || vars.numbers.get(v) == 0) {
                notice(NAME, place);
            }
            openSign();
            readE();
            need(']');
            open--;
            return v;
        }

        private void readCall(int name, int place) {
            int given = 0;
            openSign();
            if (!is(')')) {
                readE();
                given = 1;
                for (int i = 0; i <= MOST_BYTES && is(','); i++) {
                    next();
                    readE();
                    given++;
                }
            }
            need(')');
            open--;
            int proc = numberOfProc(name, place);
            agree(proc, given, place);
            emitTwo(OP_CALL, proc);
        }

        private void readE() {
            readS();
            int op = comparison();
            if (op != NONE) {
                next();
                readS();
                emit(op);
            }
        }

        private int comparison() {
            if (kind() != Tokens.SIGN) {
                return NONE;
            }
            switch (value()) {
                case '=' + Tokens.WITH_EQUAL:
                    return OP_EQUAL;
                case '!' + Tokens.WITH_EQUAL:
                    return OP_UNEQUAL;
                case '<':
                    return OP_BELOW;
                case '<' + Tokens.WITH_EQUAL:
                    return OP_NOT_ABOVE;
                case '>':
                    return OP_ABOVE;
                case '>' + Tokens.WITH_EQUAL:
                    return OP_NOT_BELOW;
                default:
                    return NONE;
            }
        }

        private void readS() {
            readT();
            for (int i = 0; i <= MOST_BYTES && (is('+') || is('-')); i++) {
                int op = is('+') ? OP_ADD : OP_SUBTRACT;
                next();
                readT();
                emit(op);
            }
        }

        private void readT() {
            readF();
            for (int i = 0; i <= MOST_BYTES && (is('*') || is('/') || is('%')); i++) {
                int op = is('*') ? OP_MULTIPLY : is('/') ? OP_DIVIDE : OP_REMAINDER;
                next();
                readF();
                emit(op);
            }
        }

        private void readF() {
            if (kind() == Tokens.NUMBER) {
                emitTwo(OP_NUMBER, value());
                next();
            } else if (kind() == Tokens.GET) {
                emit(OP_GET);
                next();
            } else if (is('-')) {
                openSign();
                readF();
                open--;
                emit(OP_NEGATE);
            } else if (is('(')) {
                openSign();
                readE();
                need(')');
                open--;
            } else {
                readNamedF();
            }
        }

        private void readNamedF() {
            int name = value();
            int place = from();
            needName();
            if (is('(')) {
                readCall(name, place);
            } else if (is('[')) {
                int v = readIndex(name, place);
                emitTwo(OP_ITEM, vars.places.get(v));
                emit(vars.numbers.get(v));
            } else {
                int own = ownNames.find(name);
                if (own >= 0) {
                    emitTwo(OP_OWN, own);
                } else {
                    emitTwo(OP_VAR, placeOfPlainVar(name, place));
                }
            }
        }
    }

    /** The machine's FRAMES, the latest last. */
    private static final class Frames {
        private static final int MOST_FRAMES = 250;

        private final Row procs = new Row(MOST_FRAMES);
        /** Where it goes on behind the call. */
        private final Row backs = new Row(MOST_FRAMES);
        /** How many values lay there when the FRAME came. */
        private final Row floors = new Row(MOST_FRAMES);
        private final Row owns = new Row(MOST_FRAMES * MOST_OWN);

        int count() {
            return procs.count;
        }

        boolean areFull() {
            return procs.isFull();
        }

        void clear() {
            procs.clear();
            backs.clear();
            floors.clear();
            owns.clear();
        }

        void enter(int proc, int back, int floor) {
            procs.add(proc);
            backs.add(back);
            floors.add(floor);
            for (int k = 0; k < MOST_OWN; k++) {
                owns.add(0);
            }
        }

        void leave() {
            procs.drop();
            backs.drop();
            floors.drop();
            owns.cut(owns.count - MOST_OWN);
        }

        int proc() {
            return procs.get(procs.count - 1);
        }

        int back() {
            return backs.get(backs.count - 1);
        }

        int floor() {
            return floors.get(floors.count - 1);
        }

        int ownWord(int k) {
            return k >= 0 && k < MOST_OWN ? owns.get(owns.count - MOST_OWN + k) : 0;
        }

        void setOwnWord(int k, int v) {
            if (k >= 0 && k < MOST_OWN) {
                owns.set(owns.count - MOST_OWN + k, v);
            }
        }
    }

    /** Runs a code on a text. It has copies of both, so that nobody alters them while it runs. */
    private static final class Machine {
        static final int NOT_BEGUN = 0;
        private static final int GOES_ON = 1;
        private static final int ENDED = 2;
        private static final int BAD_CODE = 3;
        private static final int BAD_INDEX = 4;
        private static final int BY_ZERO = 5;
        private static final int BAD_STACK = 6;
        private static final int TOO_DEEP = 7;
        private static final int TOO_LONG = 8;

        private static final int MOST_VALUES = 2000;
        private static final int MOST_STEPS = 60000000;
        /** Of each instruction: how many numbers stand behind it, how many values it takes and puts. */
        private static final int[] NUMBERS = {
            1, 1, 1, 1, 1, 2, 2, 0, 0, 0, 0, 0, 0, 0, 0, 0, 0, 0, 0, 1, 1, 1, 0, 0, 0, 0, 0
        };
        private static final int[] TAKES = {
            0, 0, 1, 0, 1, 1, 2, 2, 2, 2, 2, 2, 1, 2, 2, 2, 2, 2, 2, 0, 1, 0, 1, 1, 1, 0, 0
        };
        private static final int[] PUTS = {
            1, 1, 0, 1, 0, 1, 0, 1, 1, 1, 1, 1, 1, 1, 1, 1, 1, 1, 1, 0, 0, 0, 0, 1, 0, 1, 0
        };

        int outcome = NOT_BEGUN;
        int place;
        int steps;
        /** How many bytes of the INPUT were taken. */
        int taken;
        final Row memory = new Row(MOST_ROOM);
        final Row pile = new Row(MOST_VALUES);
        final Row output = new Row(MOST_WORDS);
        final Frames frames = new Frames();

        private final Row code = new Row(MOST_WORDS);
        private final Row input = new Row(MOST_BYTES);
        /** Where in the CODE its words of code begin, and how many these are. */
        private int start;
        private int length;
        /** Steps since the object was made, over all beginnings. */
        private int stepsInAll;
        private int first;
        private int second;

        /** False, with nothing changed, when the code has not the FORM; bytes may be null: no INPUT. */
        boolean load(Row source, Row bytes) {
            if (!hasForm(source)) {
                return false;
            }
            code.copy(source);
            input.clear();
            if (bytes != null) {
                input.copy(bytes);
            }
            start = HEAD_WORDS + WORDS_A_PROC * code.get(AT_PROCS);
            length = code.count - start;
            memory.becomeZeros(code.get(AT_ROOM));
            pile.clear();
            frames.clear();
            output.clear();
            place = 0;
            steps = 0;
            taken = 0;
            callMain(code.get(AT_MAIN));
            return true;
        }

        private static boolean hasForm(Row source) {
            int procs = source.get(AT_PROCS);
            return source.count >= HEAD_WORDS
                && source.get(0) == CODE_MARK
                && source.get(1) == source.count
                && source.get(AT_ROOM) >= 0 && source.get(AT_ROOM) <= MOST_ROOM
                && procs >= 0 && procs <= MOST_PROCS
                && HEAD_WORDS + WORDS_A_PROC * procs <= source.count
                && source.get(AT_MAIN) >= 0 && source.get(AT_MAIN) < procs;
        }

        private void callMain(int main) {
            if (!isCallable(main)) {
                outcome = BAD_CODE;
            } else if (parametersOf(main) > 0) {
                outcome = BAD_STACK;
            } else {
                outcome = GOES_ON;
                enter(main);
            }
        }

        /** Up to n steps: how many were done. */
        int run(int n) {
            int before = steps;
            for (int i = 0; i < n && outcome == GOES_ON && stepsInAll < MOST_STEPS; i++) {
                tryStep();
            }
            return steps - before;
        }

        private void tryStep() {
            int op = instruction();
            outcome = outcomeAhead(op);
            if (outcome == GOES_ON && op >= 0 && op < NUMBERS.length) {
                place += 1 + NUMBERS[op];
                perform(op);
                steps++;
                stepsInAll++;
            }
        }

        /** The instruction at the PLACE, with its numbers in first and second; NONE when it can't be one. */
        private int instruction() {
            if (place < 0 || place >= length) {
                return NONE;
            }
            int op = code.get(start + place);
            if (op < 0 || op >= NUMBERS.length || place + NUMBERS[op] >= length) {
                return NONE;
            }
            if (NUMBERS[op] > 0) {
                first = code.get(start + place + 1);
                second = code.get(start + place + 2);
            }
            return numbersFit(op) ? op : NONE;
        }

        private boolean numbersFit(int op) {
            switch (op) {
                case OP_OWN:
                case OP_SET_OWN:
                    return first >= 0 && first < ownNamesOf(frames.proc());
                case OP_VAR:
                case OP_SET_VAR:
                    return memory.has(first);
                case OP_ITEM:
                case OP_SET_ITEM:
                    return first >= 0 && second >= 0 && second <= memory.count - first;
                case OP_GO:
                case OP_GO_IF_ZERO:
                    return isPlace(first);
                case OP_CALL:
                    return isCallable(first);
                default:
                    return true;
            }
        }

        private boolean isPlace(int x) {
            return x >= 0 && x < length;
        }

        private boolean isCallable(int proc) {
            return proc >= 0 && proc < code.get(AT_PROCS)
                && isPlace(entryOf(proc))
                && parametersOf(proc) >= 0
                && parametersOf(proc) <= ownNamesOf(proc)
                && ownNamesOf(proc) <= MOST_OWN;
        }

        private int entryOf(int proc) {
            return code.get(HEAD_WORDS + WORDS_A_PROC * proc);
        }

        private int parametersOf(int proc) {
            return code.get(HEAD_WORDS + WORDS_A_PROC * proc + 1);
        }

        private int ownNamesOf(int proc) {
            return code.get(HEAD_WORDS + WORDS_A_PROC * proc + 2);
        }

        /** The outcome that keeps the instruction from being done, GOES_ON when none does; NONE is no instruction. */
        private int outcomeAhead(int op) {
            if (op < 0 || op >= TAKES.length || op >= PUTS.length) {
                return BAD_CODE;
            }
            int takes = op == OP_CALL ? parametersOf(first) : TAKES[op];
            int left = pile.count - takes;
            if (left < frames.floor() || left + PUTS[op] > MOST_VALUES) {
                return BAD_STACK;
            }
            switch (op) {
                case OP_ITEM:
                    return isIndex(pile.get(pile.count - 1)) ? GOES_ON : BAD_INDEX;
                case OP_SET_ITEM:
                    return isIndex(pile.get(pile.count - 2)) ? GOES_ON : BAD_INDEX;
                case OP_DIVIDE:
                case OP_REMAINDER:
                    return pile.get(pile.count - 1) != 0 ? GOES_ON : BY_ZERO;
                case OP_CALL:
                    return frames.areFull() ? TOO_DEEP : GOES_ON;
                case OP_PUT:
                    return output.isFull() ? TOO_LONG : GOES_ON;
                default:
                    return GOES_ON;
            }
        }

        private boolean isIndex(int i) {
            return i >= 0 && i < second;
        }

        private void perform(int op) {
            switch (op) {
                case OP_NUMBER:
                    pile.add(first);
                    break;
                case OP_OWN:
                    pile.add(frames.ownWord(first));
                    break;
                case OP_SET_OWN:
                    frames.setOwnWord(first, pile.drop());
                    break;
                case OP_VAR:
                    pile.add(memory.get(first));
                    break;
                case OP_SET_VAR:
                    memory.set(first, pile.drop());
                    break;
                case OP_ITEM:
                    pile.add(memory.get(first + pile.drop()));
                    break;
                case OP_SET_ITEM:
                    setItem();
                    break;
                case OP_NEGATE:
                    pile.add(-pile.drop());
                    break;
                case OP_GO:
                    place = first;
                    break;
                case OP_GO_IF_ZERO:
                    place = pile.drop() == 0 ? first : place;
                    break;
                case OP_CALL:
                    enter(first);
                    break;
                case OP_DROP:
                    pile.drop();
                    break;
                case OP_RETURN:
                    leave();
                    break;
                case OP_PUT:
                    output.add(pile.drop());
                    break;
                case OP_GET:
                    pile.add(nextByte());
                    break;
                case OP_STOP:
                    outcome = ENDED;
                    break;
                default:
                    makeOneOfTwo(op);
                    break;
            }
        }

        private void makeOneOfTwo(int op) {
            int right = pile.drop();
            int left = pile.drop();
            pile.add(op <= OP_REMAINDER ? reckoned(op, left, right) : compared(op, left, right));
        }

        private void setItem() {
            int v = pile.drop();
            int i = pile.drop();
            memory.set(first + i, v);
        }

        private int nextByte() {
            if (!input.has(taken)) {
                return NONE;
            }
            int b = input.get(taken);
            taken++;
            return b;
        }

        private void enter(int proc) {
            int parameters = parametersOf(proc);
            int floor = pile.count - parameters;
            frames.enter(proc, place, floor);
            for (int k = 0; k < parameters && k < MOST_OWN; k++) {
                frames.setOwnWord(k, pile.get(floor + k));
            }
            pile.cut(floor);
            place = entryOf(proc);
        }

        private void leave() {
            int given = pile.drop();
            int back = frames.back();
            pile.cut(frames.floor());
            pile.add(given);
            frames.leave();
            if (frames.count() == 0) {
                outcome = ENDED;
            } else {
                place = back;
            }
        }

        private static int compared(int op, int left, int right) {
            boolean holds;
            switch (op) {
                case OP_EQUAL:
                    holds = left == right;
                    break;
                case OP_UNEQUAL:
                    holds = left != right;
                    break;
                case OP_BELOW:
                    holds = left < right;
                    break;
                case OP_NOT_ABOVE:
                    holds = left <= right;
                    break;
                case OP_ABOVE:
                    holds = left > right;
                    break;
                default:
                    holds = left >= right;
                    break;
            }
            return holds ? 1 : 0;
        }

        private static int reckoned(int op, int left, int right) {
            switch (op) {
                case OP_ADD:
                    return left + right;
                case OP_SUBTRACT:
                    return left - right;
                case OP_MULTIPLY:
                    return left * right;
                case OP_DIVIDE:
                    return right == 0 ? 0 : left / right;
                default:
                    return right == 0 ? 0 : left % right;
            }
        }
    }

    /** SELF: the compiler, written in the language. */
    private static final class SelfText {
        static void layInto(Row row) {
            layWords(row);
            layTokens(row);
            layNames(row);
            layExpressions(row);
            layLines(row);
            layParts(row);
            layMain(row);
        }

        /** The byte 10 comes ahead of a line, so that there is none behind the last. */
        private static void lay(Row row, String line) {
            if (row.count > 0) {
                row.add(NEW_LINE);
            }
            for (int i = 0; i < line.length(); i++) {
                row.add(line.charAt(i));
            }
        }

        private static void layWords(Row row) {
            lay(row, "# The compiler of the language, written in it.");
            lay(row, "var c; var at; var tok; var val; var from; var deep;");
            lay(row, "var code[6000]; var n;");
            lay(row, "var gname[60]; var gbase[60]; var gsize[60]; var gs; var room;");
            lay(row, "var pname[60]; var pargs[60]; var pent[60]; var ploc[60]; var pat[60]; var ps;");
            lay(row, "var lname[20]; var ls;");
            lay(row, "def fault(k, p) { put 0 - k; put p; stop; }");
            lay(row, "def step() { c = get; at = at + 1; }");
            lay(row, "def is(s) { return (tok == 3) * (val == s); }");
            lay(row, "def letter() { return (c >= 'a') * (c <= 'z'); }");
            lay(row, "def digit() { return (c >= '0') * (c <= '9'); }");
            lay(row, "def word() {");
            lay(row, "  let len = 0;");
            lay(row, "  val = 0;");
            lay(row, "  while letter() {");
            lay(row, "    if len == 6 { fault(1, at); }");
            lay(row, "    val = val * 27 + c - 96;");
            lay(row, "    len = len + 1;");
            lay(row, "    step();");
            lay(row, "  }");
            lay(row, "  tok = 1;");
            lay(row, "  if val == 16083 { tok = 10; } # var");
            lay(row, "  if val == 3057 { tok = 11; } # def");
            lay(row, "  if val == 8903 { tok = 12; } # let");
            lay(row, "  if val == 249 { tok = 13; } # if");
            lay(row, "  if val == 107681 { tok = 14; } # else");
            lay(row, "  if val == 12387497 { tok = 15; } # while");
            lay(row, "  if val == 261347000 { tok = 16; } # return");
            lay(row, "  if val == 12251 { tok = 17; } # put");
            lay(row, "  if val == 5258 { tok = 18; } # get");
            lay(row, "  if val == 388978 { tok = 19; } # stop");
            lay(row, "}");
        }

        private static void layTokens(Row row) {
            lay(row, "def number() {");
            lay(row, "  let len = 0;");
            lay(row, "  val = 0;");
            lay(row, "  while digit() {");
            lay(row, "    if len == 9 { fault(1, at); }");
            lay(row, "    val = val * 10 + c - '0';");
            lay(row, "    len = len + 1;");
            lay(row, "    step();");
            lay(row, "  }");
            lay(row, "  tok = 2;");
            lay(row, "}");
            lay(row, "def char() {");
            lay(row, "  step();");
            lay(row, "  if (c < 32) + (c > 126) { fault(1, at); }");
            lay(row, "  val = c;");
            lay(row, "  step();");
            lay(row, "  if c != 39 { fault(1, at); }");
            lay(row, "  step();");
            lay(row, "  tok = 2;");
            lay(row, "}");
            lay(row, "def sign() {");
            lay(row, "  let s = c;");
            lay(row, "  let one = (s >= 40) * (s <= 45) + (s == 47) + (s >= 59) * (s <= 62) + (s == 37) + (s == 33);");
            lay(row, "  if one + (s == 91) + (s == 93) + (s == 123) + (s == 125) == 0 { fault(1, from); }");
            lay(row, "  step();");
            lay(row, "  tok = 3;");
            lay(row, "  val = s;");
            lay(row, "  if (s == '=') + (s == '!') + (s == '<') + (s == '>') {");
            lay(row, "    if c == '=' { val = s + 128; step(); }");
            lay(row, "  }");
            lay(row, "  if val == '!' { fault(1, from); }");
            lay(row, "}");
            lay(row, "def next() {");
            lay(row, "  while (c == 32) + (c == 10) + (c == '#') {");
            lay(row, "    if c == '#' { while (c != 10) * (c >= 0) { step(); } } else { step(); }");
            lay(row, "  }");
            lay(row, "  from = at;");
            lay(row, "  if c < 0 { tok = 0; return 0; }");
            lay(row, "  if letter() { word(); return 0; }");
            lay(row, "  if digit() { number(); return 0; }");
            lay(row, "  if c == 39 { char(); return 0; }");
            lay(row, "  sign();");
            lay(row, "}");
        }

        private static void layNames(Row row) {
            lay(row, "def need(s) { if is(s) { next(); } else { fault(1, from); } }");
            lay(row, "def open() { if deep == 30 { fault(1, from); } deep = deep + 1; next(); }");
            lay(row, "def name() { if tok != 1 { fault(1, from); } next(); }");
            lay(row, "def emit(v) { if n == 6000 { fault(6, from); } code[n] = v; n = n + 1; }");
            lay(row, "def two(v, w) { emit(v); emit(w); }");
            lay(row, "def local(w) {");
            lay(row, "  let k = 0;");
            lay(row, "  while k < ls { if lname[k] == w { return k; } k = k + 1; }");
            lay(row, "  return 0 - 1;");
            lay(row, "}");
            lay(row, "def global(w) {");
            lay(row, "  let k = 0;");
            lay(row, "  while k < gs { if gname[k] == w { return k; } k = k + 1; }");
            lay(row, "  return 0 - 1;");
            lay(row, "}");
            lay(row, "def proc(w, p) {");
            lay(row, "  let k = 0;");
            lay(row, "  while k < ps { if pname[k] == w { return k; } k = k + 1; }");
            lay(row, "  if ps == 60 { fault(6, p); }");
            lay(row, "  pname[k] = w; pargs[k] = 0 - 1; pent[k] = 0 - 1; pat[k] = p;");
            lay(row, "  ps = ps + 1;");
            lay(row, "  return k;");
            lay(row, "}");
            lay(row, "def call(w, p) {");
            lay(row, "  let k = 0;");
            lay(row, "  open();");
            lay(row, "  if is(')') == 0 {");
            lay(row, "    expr();");
            lay(row, "    k = 1;");
            lay(row, "    while is(',') { next(); expr(); k = k + 1; }");
            lay(row, "  }");
            lay(row, "  need(')');");
            lay(row, "  deep = deep - 1;");
            lay(row, "  let q = proc(w, p);");
            lay(row, "  if pargs[q] < 0 { pargs[q] = k; }");
            lay(row, "  if pargs[q] != k { fault(3, p); }");
            lay(row, "  two(21, q);");
            lay(row, "}");
            lay(row, "def item(w, p) {");
            lay(row, "  let g = global(w);");
            lay(row, "  if g < 0 { fault(2, p); }");
            lay(row, "  if gsize[g] == 0 { fault(2, p); }");
            lay(row, "  open();");
            lay(row, "  expr();");
            lay(row, "  need(']');");
            lay(row, "  deep = deep - 1;");
            lay(row, "  return g;");
            lay(row, "}");
            lay(row, "def plain(w, p) {");
            lay(row, "  let g = global(w);");
            lay(row, "  if g < 0 { fault(2, p); }");
            lay(row, "  if gsize[g] > 0 { fault(2, p); }");
            lay(row, "  return gbase[g];");
            lay(row, "}");
        }

        private static void layExpressions(Row row) {
            lay(row, "def factor() {");
            lay(row, "  let w = val;");
            lay(row, "  let p = from;");
            lay(row, "  let k = 0;");
            lay(row, "  if tok == 2 { two(0, val); next(); return 0; }");
            lay(row, "  if tok == 18 { emit(25); next(); return 0; }");
            lay(row, "  if is('-') { open(); factor(); deep = deep - 1; emit(12); return 0; }");
            lay(row, "  if is('(') { open(); expr(); need(')'); deep = deep - 1; return 0; }");
            lay(row, "  name();");
            lay(row, "  if is('(') { call(w, p); return 0; }");
            lay(row, "  if is('[') { k = item(w, p); two(5, gbase[k]); emit(gsize[k]); return 0; }");
            lay(row, "  k = local(w);");
            lay(row, "  if k < 0 { two(3, plain(w, p)); } else { two(1, k); }");
            lay(row, "}");
            lay(row, "def term() {");
            lay(row, "  let op = 0;");
            lay(row, "  factor();");
            lay(row, "  while is('*') + is('/') + is('%') {");
            lay(row, "    op = 9 + is('/') + 2 * is('%');");
            lay(row, "    next();");
            lay(row, "    factor();");
            lay(row, "    emit(op);");
            lay(row, "  }");
            lay(row, "}");
            lay(row, "def sum() {");
            lay(row, "  let op = 0;");
            lay(row, "  term();");
            lay(row, "  while is('+') + is('-') {");
            lay(row, "    op = 7 + is('-');");
            lay(row, "    next();");
            lay(row, "    term();");
            lay(row, "    emit(op);");
            lay(row, "  }");
            lay(row, "}");
            lay(row, "def expr() {");
            lay(row, "  sum();");
            lay(row, "  let op = 13 * is('=' + 128) + 14 * is('!' + 128) + 15 * is('<') + 16 * is('<' + 128);");
            lay(row, "  op = op + 17 * is('>') + 18 * is('>' + 128);");
            lay(row, "  if op > 0 { next(); sum(); emit(op); }");
            lay(row, "}");
            lay(row, "def block() {");
            lay(row, "  if is('{') == 0 { fault(1, from); }");
            lay(row, "  open();");
            lay(row, "  while is('}') == 0 { line(); }");
            lay(row, "  next();");
            lay(row, "  deep = deep - 1;");
            lay(row, "}");
            lay(row, "def tell(w, p) {");
            lay(row, "  if ls == 20 { fault(6, p); }");
            lay(row, "  lname[ls] = w;");
            lay(row, "  ls = ls + 1;");
            lay(row, "}");
            lay(row, "def ends(op) { need(';'); emit(op); }");
        }

        private static void layLines(Row row) {
            lay(row, "def line() {");
            lay(row, "  let w = val;");
            lay(row, "  let p = from;");
            lay(row, "  let a = 0;");
            lay(row, "  let b = 0;");
            lay(row, "  if tok == 12 {");
            lay(row, "    next();");
            lay(row, "    w = val; p = from;");
            lay(row, "    name();");
            lay(row, "    if local(w) >= 0 { fault(2, p); }");
            lay(row, "    need('=');");
            lay(row, "    expr();");
            lay(row, "    ends(2);");
            lay(row, "    tell(w, p);");
            lay(row, "    emit(ls - 1);");
            lay(row, "    return 0;");
            lay(row, "  }");
            lay(row, "  if tok == 13 {");
            lay(row, "    next();");
            lay(row, "    expr();");
            lay(row, "    two(20, 0);");
            lay(row, "    a = n - 1;");
            lay(row, "    block();");
            lay(row, "    if tok == 14 { next(); two(19, 0); b = n - 1; code[a] = n; a = b; block(); }");
            lay(row, "    code[a] = n;");
            lay(row, "    return 0;");
            lay(row, "  }");
            lay(row, "  if tok == 15 {");
            lay(row, "    next();");
            lay(row, "    b = n;");
            lay(row, "    expr();");
            lay(row, "    two(20, 0);");
            lay(row, "    a = n - 1;");
            lay(row, "    block();");
            lay(row, "    two(19, b);");
            lay(row, "    code[a] = n;");
            lay(row, "    return 0;");
            lay(row, "  }");
            lay(row, "  if tok == 16 { next(); expr(); ends(23); return 0; }");
            lay(row, "  if tok == 17 { next(); expr(); ends(24); return 0; }");
            lay(row, "  if tok == 19 { next(); ends(26); return 0; }");
            lay(row, "  name();");
            lay(row, "  if is('(') { call(w, p); ends(22); return 0; }");
            lay(row, "  if is('[') { a = item(w, p); need('='); expr(); ends(6); two(gbase[a], gsize[a]); return 0; }");
            lay(row, "  a = local(w);");
            lay(row, "  b = 2;");
            lay(row, "  if a < 0 { a = plain(w, p); b = 4; }");
            lay(row, "  need('=');");
            lay(row, "  expr();");
            lay(row, "  ends(b);");
            lay(row, "  emit(a);");
            lay(row, "}");
        }

        private static void layParts(Row row) {
            lay(row, "def vars() {");
            lay(row, "  next();");
            lay(row, "  let w = val;");
            lay(row, "  let p = from;");
            lay(row, "  let size = 0;");
            lay(row, "  name();");
            lay(row, "  if global(w) >= 0 { fault(2, p); }");
            lay(row, "  if is('[') {");
            lay(row, "    next();");
            lay(row, "    size = val;");
            lay(row, "    if tok != 2 { fault(1, from); }");
            lay(row, "    if (size < 1) + (size > 8000) { fault(6, from); }");
            lay(row, "    next();");
            lay(row, "    need(']');");
            lay(row, "  }");
            lay(row, "  need(';');");
            lay(row, "  if gs == 60 { fault(6, p); }");
            lay(row, "  gname[gs] = w; gsize[gs] = size; gbase[gs] = room;");
            lay(row, "  gs = gs + 1;");
            lay(row, "  room = room + size + (size == 0);");
            lay(row, "  if room > 20000 { fault(6, p); }");
            lay(row, "}");
            lay(row, "def param() {");
            lay(row, "  let w = val;");
            lay(row, "  let p = from;");
            lay(row, "  name();");
            lay(row, "  if local(w) >= 0 { fault(2, p); }");
            lay(row, "  tell(w, p);");
            lay(row, "}");
            lay(row, "def defs() {");
            lay(row, "  next();");
            lay(row, "  let w = val;");
            lay(row, "  let p = from;");
            lay(row, "  name();");
            lay(row, "  let q = proc(w, p);");
            lay(row, "  if pent[q] >= 0 { fault(2, p); }");
            lay(row, "  pent[q] = n;");
            lay(row, "  ls = 0;");
            lay(row, "  need('(');");
            lay(row, "  if is(')') == 0 {");
            lay(row, "    param();");
            lay(row, "    while is(',') { next(); param(); }");
            lay(row, "  }");
            lay(row, "  need(')');");
            lay(row, "  if pargs[q] < 0 { pargs[q] = ls; }");
            lay(row, "  if pargs[q] != ls { fault(3, p); }");
            lay(row, "  block();");
            lay(row, "  two(0, 0);");
            lay(row, "  emit(23);");
            lay(row, "  ploc[q] = ls;");
            lay(row, "}");
        }

        private static void layMain(Row row) {
            lay(row, "def main() {");
            lay(row, "  let k = 0;");
            lay(row, "  let m = 0 - 1;");
            lay(row, "  c = get;");
            lay(row, "  next();");
            lay(row, "  while tok > 0 {");
            lay(row, "    if tok == 10 { vars(); } else { if tok == 11 { defs(); } else { fault(1, from); } }");
            lay(row, "  }");
            lay(row, "  while k < ps {");
            lay(row, "    if pent[k] < 0 { fault(4, pat[k]); }");
            lay(row, "    if (pname[k] == 256865) * (pargs[k] == 0) { m = k; }");
            lay(row, "    k = k + 1;");
            lay(row, "  }");
            lay(row, "  if m < 0 { fault(5, from); }");
            lay(row, "  put 7919; put 5 + 3 * ps + n; put room; put ps; put m;");
            lay(row, "  k = 0;");
            lay(row, "  while k < ps { put pent[k]; put pargs[k]; put ploc[k]; k = k + 1; }");
            lay(row, "  k = 0;");
            lay(row, "  while k < n { put code[k]; k = k + 1; }");
            lay(row, "}");
        }
    }
}
