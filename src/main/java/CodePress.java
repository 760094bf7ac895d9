import java.util.Arrays;

/**
 * A press for programs in stages: it reads a small typed language, types it by levels and works it
 * out step by step. A text becomes a row of instructions in the order of its TOKENS; typing, working
 * out and building all go along that row, so none of them needs a recursion over the text.
 */
public final class CodePress {

    public static final int NONE = -1;

    private static final int REFUSED = -2;
    private static final int TAPE_ROOM = 3000;
    private static final int OUT_ROOM = 20000;
    private static final int TYPE_TEXT_ROOM = 1000;
    private static final int MOST_STEPS = 500;
    private static final int MOST_TOKENS = 800;
    private static final int MOST_DEFS = 16;
    private static final int MOST_PARAMS = 4;
    private static final int MOST_KEPT = 8;
    private static final int MOST_OPEN = 24;
    private static final int MOST_BEGUN = 100;
    private static final int MOST_PARTS = 300;
    private static final int MOST_SIZE = 200;
    private static final int MOST_HEIGHT = 60;
    private static final int WIDEST = 40;
    private static final int TOP_LEVEL = 2;
    private static final int LOWEST_INT = -2147483648;

    private static final int FAULT_FORM = 1;
    private static final int FAULT_NAME = 2;
    private static final int FAULT_TWICE = 3;
    private static final int FAULT_TYPE = 4;
    private static final int FAULT_LEVEL = 5;
    private static final int FAULT_MANY = 6;
    private static final int FAULT_WIDE = 7;

    private static final int END_STEPS = 1;
    private static final int END_DEEP = 2;
    private static final int END_FULL = 3;
    private static final int END_ZERO = 4;

    private final byte[] tape = new byte[TAPE_ROOM];
    private final Types types = new Types();
    private final Code code = new Code();
    private final Nodes nodes = new Nodes();
    private final Store store = new Store();
    private final Parser parser = new Parser(new Lexer(tape), code, types);
    private final Typer typer = new Typer(code, types);
    private final Builder builder = new Builder(code, nodes, store);
    private final Machine machine = new Machine(code, store, builder);
    private final Writer shown = new Writer(OUT_ROOM, code, types, nodes, store);
    // what the question gave is written at once: later texts may use the rows that it stands in
    private final Writer valueText = new Writer(OUT_ROOM, code, types, nodes, store);
    private final Writer typeText = new Writer(TYPE_TEXT_ROOM, code, types, nodes, store);
    private final int[] tale = {NONE, 0, 0, 0, NONE, 0, 0, 0};
    private int tapeSize;
    private int faultKind;
    private int faultPlace = NONE;
    private int gaveValue;
    private boolean asked;
    private boolean hasValue;

    public CodePress() {
    }

    public int feed(int a, int b, int c, int d, int e) {
        if (tapeSize + 20 > TAPE_ROOM) {
            return NONE;
        }
        feedFour(a);
        feedFour(b);
        feedFour(c);
        feedFour(d);
        feedFour(e);
        return tapeSize;
    }

    public int load(int n) {
        if (n < 0 || n > tapeSize) {
            return REFUSED;
        }
        tapeSize = 0;
        int before = code.known;
        int start = startText();
        code.startDefs(1 - before);
        parser.readProgram(n);
        if (!isSound(start)) {
            code.known = before;
            return NONE;
        }
        return code.defCount[code.known];
    }

    public int ask(int n, int steps, boolean erased) {
        if (n < 0 || n > tapeSize || steps < 0 || steps > MOST_STEPS) {
            return REFUSED;
        }
        tapeSize = 0;
        int start = startText();
        parser.readQuestion(n);
        if (!isSound(start)) {
            return NONE;
        }
        int end = machine.work(start, steps, erased);
        tell(end);
        if (hasValue) {
            tellValue(store.tag[0], store.val[0]);
        }
        return end;
    }

    public int fault(int what) {
        if (what == 0) {
            return faultKind;
        }
        return what == 1 ? faultPlace : NONE;
    }

    public int told(int what) {
        return what >= 0 && what < tale.length ? tale[what] : NONE;
    }

    public int type(int what, int k) {
        if (what == 0 && asked) {
            shown.take(typeText);
            return shown.size;
        }
        if (what == 1 && k >= 0 && k < code.defCount[code.known]) {
            shown.clear();
            shown.putType(code.a[code.defAt(k)], 0);
            return shown.size;
        }
        return NONE;
    }

    public int value() {
        if (!hasValue || valueText.over) {
            return NONE;
        }
        shown.take(valueText);
        return shown.size;
    }

    public int out(int i) {
        return i >= 0 && i < shown.size ? shown.text[i] : NONE;
    }

    public int count(int what) {
        switch (what) {
            case 0:
                return code.defCount[code.known];
            case 1:
                return tapeSize;
            case 2:
                return shown.size;
            case 3:
                return gaveValue;
            default:
                return NONE;
        }
    }

    private void feedFour(int four) {
        for (int shift = 24; shift >= 0; shift -= 8) {
            if (tapeSize < TAPE_ROOM) {
                tape[tapeSize] = (byte) (four >> shift);
                tapeSize++;
            }
        }
    }

    /** A text goes to the half where the known DEFS are not; they may have to stay. */
    private int startText() {
        int half = 1 - code.known;
        code.startHalf(half);
        types.startHalf(half);
        return code.used;
    }

    private boolean isSound(int start) {
        faultKind = parser.fault;
        faultPlace = parser.place;
        if (faultKind == 0) {
            typer.check(start, code.used);
            faultKind = typer.fault;
            faultPlace = typer.place;
        }
        if (faultKind == 0) {
            faultPlace = NONE;
        }
        return faultKind == 0;
    }

    private void tell(int end) {
        asked = true;
        hasValue = end == 0;
        tale[0] = end;
        tale[1] = machine.steps;
        tale[2] = builder.parts;
        tale[3] = machine.deepest;
        tale[4] = NONE;
        tale[5] = 0;
        tale[6] = 0;
        tale[7] = 0;
        typeText.clear();
        typeText.putType(typer.result(), 0);
    }

    private void tellValue(int tag, int val) {
        gaveValue++;
        tale[4] = tag;
        if (tag == Store.INT || tag == Store.TRUTH) {
            tale[5] = val;
        }
        if (tag == Store.CODE && nodes.has(val)) {
            tale[6] = nodes.size[val];
            tale[7] = nodes.height[val];
        }
        valueText.clear();
        valueText.putValue(tag, val, 0);
    }

    /** The TYPES of the texts; int and bool stand once, the others in the half of their text. */
    private static final class Types {
        static final int INT = 0;
        static final int BOOL = 1;
        static final int CODE = 2;
        static final int BOX = 3;
        static final int ARROW = 4;
        static final int PAIR = 5;
        static final int HALF = 1800;
        static final int ROOM = 2 + 2 * HALF;
        // a TYPE that is compared has at most 40 PARTS
        static final int DEEPEST = 50;

        final int[] kind = new int[ROOM];
        final int[] left = new int[ROOM];
        final int[] right = new int[ROOM];
        final int[] parts = new int[ROOM];
        final boolean[] plain = new boolean[ROOM];
        int used = 2;
        int limit = 2 + HALF;

        Types() {
            kind[BOOL] = BOOL;
            parts[INT] = 1;
            parts[BOOL] = 1;
            plain[INT] = true;
            plain[BOOL] = true;
        }

        void startHalf(int half) {
            used = half == 0 ? 2 : 2 + HALF;
            limit = used + HALF;
        }

        private boolean has(int t) {
            return t >= 0 && t < ROOM;
        }

        int make(int what, int l, int r) {
            int t = used;
            if (used < limit - 1) {
                used++;
            }
            boolean two = what == ARROW || what == PAIR;
            kind[t] = what;
            left[t] = l;
            right[t] = two ? r : INT;
            parts[t] = 1 + partsOf(l) + (two ? partsOf(r) : 0);
            plain[t] = what == PAIR && isPlain(l) && isPlain(r);
            return t;
        }

        int kindOf(int t) {
            return has(t) ? kind[t] : INT;
        }

        int leftOf(int t) {
            return has(t) ? left[t] : INT;
        }

        int rightOf(int t) {
            return has(t) ? right[t] : INT;
        }

        private int partsOf(int t) {
            return has(t) ? parts[t] : 0;
        }

        boolean isPlain(int t) {
            return has(t) && plain[t];
        }

        boolean isWide(int t) {
            return has(t) && parts[t] > WIDEST;
        }

        private boolean isSame(int s, int t, int deep) {
            if (s == t) {
                return true;
            }
            if (deep > DEEPEST || !has(s) || !has(t) || kind[s] != kind[t] || parts[s] != parts[t]) {
                return false;
            }
            return isSame(left[s], left[t], deep + 1) && isSame(right[s], right[t], deep + 1);
        }
    }

    /** Rows of instructions: two halves for texts, then what runs press; and the table of DEFS. */
    private static final class Code {
        // plain ones
        static final int NUM = 0;
        static final int TRUTH = 1;
        static final int NAME = 2;
        static final int VAR = 3;
        static final int DEFREF = 4;
        static final int BIN = 5;
        static final int APPLY = 6;
        static final int PAIR = 7;
        static final int FST = 8;
        static final int SND = 9;
        static final int TEST = 10;
        static final int ELSE = 11;
        static final int ENDIF = 12;
        static final int STOP = 13;
        // from here on they tell NAMES and make FUNCTIONS
        static final int FN = 14;
        static final int ENDFN = 15;
        static final int REC = 16;
        static final int ARG = 17;
        static final int ENDREC = 18;
        static final int BIND = 19;
        static final int UNBIND = 20;
        static final int DEF = 21;
        static final int PARAM = 22;
        static final int ENDDEF = 23;
        // from here on they belong to the stages
        static final int CLOSE = 24;
        static final int KEEP = 25;
        static final int KEPT = 26;
        static final int IN = 27;
        static final int ENDCLOSE = 28;
        static final int QUOTE = 29;
        static final int ENDQUOTE = 30;
        static final int SPLICE = 31;
        static final int ENDSPLICE = 32;
        static final int OPEN = 33;
        static final int RUN = 34;
        static final int ENDRUN = 35;

        // a TOKEN makes two instructions at most
        static final int HALF = 2 * MOST_TOKENS + 100;
        // a PART that is pressed makes three at most, a run one more
        static final int PRESSED = 4 * MOST_PARTS + 10;
        static final int ROOM = 2 * HALF + PRESSED;

        final int[] op = new int[ROOM];
        // what the instruction needs: a number, a sign, a TYPE, how many, where to go on
        final int[] a = new int[ROOM];
        final int[] b = new int[ROOM];
        // which told NAME is meant
        final int[] id = new int[ROOM];
        final int[] at = new int[ROOM];
        // PARTS that begin with this instruction, but are made by a later one
        final int[] begins = new int[ROOM];
        final long[] name = new long[ROOM];
        final int[] defs = new int[2 * MOST_DEFS];
        final int[] defCount = new int[2];
        int used;
        int limit = HALF;
        int known;

        void startHalf(int half) {
            used = half == 0 ? 0 : HALF;
            limit = used + HALF;
        }

        void startPressed() {
            used = 2 * HALF;
            limit = ROOM;
        }

        void startDefs(int half) {
            known = half == 0 ? 0 : 1;
            defCount[known] = 0;
        }

        boolean has(int i) {
            return i >= 0 && i < ROOM;
        }

        boolean isTelling(int i) {
            return op[i] >= FN && op[i] < CLOSE;
        }

        boolean isStaged(int i) {
            return op[i] >= CLOSE;
        }

        int emit(int what, int place) {
            int i = used;
            if (used < limit - 1) {
                used++;
            }
            op[i] = what;
            a[i] = 0;
            b[i] = 0;
            id[i] = i;
            at[i] = place;
            begins[i] = 0;
            name[i] = 0;
            return i;
        }

        /** An instruction for a PART whose own parts stand from start on. */
        int join(int what, int place, int start) {
            int i = emit(what, place);
            if (has(start)) {
                begins[start]++;
            }
            return i;
        }

        int defAt(int k) {
            int at = known * MOST_DEFS + k;
            int i = k >= 0 && k < MOST_DEFS && at < defs.length ? defs[at] : 0;
            return has(i) ? i : 0;
        }

        void addDef(int i) {
            int k = defCount[known];
            if (k < MOST_DEFS) {
                defs[known * MOST_DEFS + k] = i;
                defCount[known] = k + 1;
            }
        }

        int findDef(long wanted) {
            for (int k = 0; k < defCount[known]; k++) {
                if (name[defAt(k)] == wanted) {
                    return k;
                }
            }
            return NONE;
        }
    }

    /** The TOKENS of a text, read ahead of the parser, up to the first that is one too many. */
    private static final class Lexer {
        static final int EQUAL = 256;
        static final int ARROW = 257;
        static final int NAME = 258;
        static final int NUMBER = 259;
        static final int END = 260;
        static final int BAD = 261;
        static final int DEF = 270;
        static final int FN = 271;
        static final int REC = 272;
        static final int LET = 273;
        static final int IN = 274;
        static final int IF = 275;
        static final int THEN = 276;
        static final int ELSE = 277;
        static final int CLOSE = 278;
        static final int RUN = 279;
        static final int OPEN = 280;
        static final int FST = 281;
        static final int SND = 282;
        static final int TRUE = 283;
        static final int FALSE = 284;
        static final int INT = 285;
        static final int BOOL = 286;
        static final int CODE = 287;
        static final int BOX = 288;
        static final int WORDS = 19;
        static final String WORD_LIST =
            "def fn rec let in if then else close run open fst snd true false int bool code box ";
        static final String SIGNS = "(){},;:.=<+-*/%~";
        static final int LONGEST_NAME = 8;
        static final int LONGEST_NUMBER = 10;
        static final long GREATEST_NUMBER = 2147483647L;

        final byte[] text;
        final long[] words = new long[WORDS];
        final int[] kinds = new int[MOST_TOKENS + 1];
        final int[] places = new int[MOST_TOKENS + 1];
        final int[] numbers = new int[MOST_TOKENS + 1];
        final long[] names = new long[MOST_TOKENS + 1];
        int size;
        int pos;
        // the TOKEN that was read last
        int kind;
        int at;
        int number;
        long name;

        Lexer(byte[] text) {
            this.text = text;
            long word = 0;
            int found = 0;
            for (int i = 0; i < WORD_LIST.length(); i++) {
                char c = WORD_LIST.charAt(i);
                if (c != ' ') {
                    word = (word << 8) | c;
                } else if (found < WORDS) {
                    words[found] = word;
                    found++;
                    word = 0;
                }
            }
        }

        void read(int n) {
            size = Math.min(n, text.length);
            pos = 0;
            kind = BAD;
            for (int t = 0; t <= MOST_TOKENS && kind != END; t++) {
                next();
                kinds[t] = kind;
                places[t] = at;
                numbers[t] = number;
                names[t] = name;
            }
        }

        private void next() {
            while (pos < size && (text[pos] == ' ' || text[pos] == '\n')) {
                pos++;
            }
            at = pos;
            if (pos >= size) {
                kind = END;
            } else if (isLetter(text[pos])) {
                readName();
            } else if (isDigit(text[pos])) {
                readNumber();
            } else {
                readSign();
            }
        }

        private static boolean isLetter(int c) {
            return c >= 'a' && c <= 'z';
        }

        private static boolean isDigit(int c) {
            return c >= '0' && c <= '9';
        }

        private void readName() {
            name = 0;
            while (pos < size && (isLetter(text[pos]) || isDigit(text[pos]))) {
                name = (name << 8) | text[pos];
                pos++;
            }
            kind = pos - at > LONGEST_NAME ? BAD : NAME;
            for (int w = 0; w < WORDS && kind == NAME; w++) {
                if (words[w] == name) {
                    kind = DEF + w;
                }
            }
        }

        private void readNumber() {
            long sum = 0;
            while (pos < size && isDigit(text[pos])) {
                if (pos - at < LONGEST_NUMBER) {
                    sum = sum * 10 + (text[pos] - '0');
                }
                pos++;
            }
            kind = pos - at > LONGEST_NUMBER || sum > GREATEST_NUMBER ? BAD : NUMBER;
            number = (int) sum;
        }

        private void readSign() {
            char c = (char) (text[pos] & 255);
            char then = pos + 1 < size ? (char) (text[pos + 1] & 255) : ' ';
            pos++;
            if (c == '=' && then == '=') {
                kind = EQUAL;
                pos++;
            } else if (c == '-' && then == '>') {
                kind = ARROW;
                pos++;
            } else {
                int sign = c;
                kind = SIGNS.indexOf(c) >= 0 ? sign : BAD;
            }
        }
    }

    /** The first round: TOKENS become instructions. Behind a FAULT no TOKEN fits any more. */
    private static final class Parser {
        static final int STUCK = -1;

        final Lexer lexer;
        final Code code;
        final Types types;
        // how many TOKENS stand ahead of the one at hand
        int tokens;
        int kind;
        int at;
        int open;
        int fault;
        int place;
        long name;
        int nameAt;

        Parser(Lexer lexer, Code code, Types types) {
            this.lexer = lexer;
            this.code = code;
            this.types = types;
        }

        void readProgram(int n) {
            start(n);
            for (int d = 0; d <= MOST_DEFS && kind == Lexer.DEF; d++) {
                readDef(d == MOST_DEFS);
            }
            if (kind != Lexer.END) {
                fail(FAULT_FORM);
            }
        }

        void readQuestion(int n) {
            start(n);
            readE();
            if (kind != Lexer.END) {
                fail(FAULT_FORM);
            }
            code.emit(Code.STOP, n);
        }

        private void start(int n) {
            tokens = 0;
            open = 0;
            fault = 0;
            place = NONE;
            lexer.read(n);
            kind = lexer.kinds[0];
            at = lexer.places[0];
        }

        private void fail(int what) {
            if (fault == 0) {
                fault = what;
                place = at;
                kind = STUCK;
            }
        }

        /** Goes behind the TOKEN at hand, which fits. */
        private void take() {
            if (fault != 0) {
                return;
            }
            if (tokens >= MOST_TOKENS) {
                fail(FAULT_MANY);
                return;
            }
            tokens++;
            kind = lexer.kinds[tokens];
            at = lexer.places[tokens];
        }

        private void expect(int wanted) {
            if (kind == wanted) {
                take();
            } else {
                fail(FAULT_FORM);
            }
        }

        /** As expect, of a TOKEN that stands open until shut() is called. */
        private void expectOpen(int wanted) {
            if (kind != wanted) {
                fail(FAULT_FORM);
            } else if (open == MOST_OPEN) {
                fail(FAULT_MANY);
            } else {
                take();
            }
            open++;
        }

        private void shut() {
            open--;
        }

        private void expectName(boolean tooMany) {
            name = lexer.names[tokens];
            nameAt = at;
            if (kind != Lexer.NAME) {
                fail(FAULT_FORM);
            } else if (tooMany) {
                fail(FAULT_MANY);
            } else {
                take();
            }
        }

        private int emitName(int what) {
            int i = code.emit(what, nameAt);
            code.name[i] = name;
            return i;
        }

        private void readDef(boolean tooMany) {
            expect(Lexer.DEF);
            expectName(tooMany);
            int def = emitName(Code.DEF);
            int params = 0;
            boolean more = true;
            expectOpen('(');
            for (int p = 0; p <= MOST_PARAMS && more; p++) {
                expectName(p == MOST_PARAMS);
                int param = emitName(Code.PARAM);
                expect(':');
                code.a[param] = readType();
                params++;
                more = kind == ',';
                if (more) {
                    take();
                }
            }
            expect(')');
            shut();
            expect(':');
            int gives = readType();
            code.a[def] = defType(def, params, gives);
            code.b[def] = params;
            expect('=');
            readE();
            expect(';');
            int end = code.emit(Code.ENDDEF, code.at[def]);
            code.a[end] = gives;
        }

        private int defType(int def, int params, int gives) {
            int t = gives;
            for (int i = def + params; i > def && i < Code.ROOM; i--) {
                t = types.make(Types.ARROW, code.a[i], t);
            }
            return t;
        }

        private int readType() {
            int sort = readSort();
            if (kind != Lexer.ARROW) {
                return sort;
            }
            expectOpen(Lexer.ARROW);
            int t = types.make(Types.ARROW, sort, readType());
            shut();
            return t;
        }

        private int readSort() {
            switch (kind) {
                case Lexer.INT:
                    take();
                    return Types.INT;
                case Lexer.BOOL:
                    take();
                    return Types.BOOL;
                case Lexer.CODE:
                    return readStaged(Types.CODE);
                case Lexer.BOX:
                    return readStaged(Types.BOX);
                case '(':
                    return readTypeInside();
                default:
                    fail(FAULT_FORM);
                    return Types.INT;
            }
        }

        private int readStaged(int what) {
            expectOpen(kind);
            int t = types.make(what, readSort(), Types.INT);
            shut();
            return t;
        }

        private int readTypeInside() {
            expectOpen('(');
            int t = readType();
            if (kind == ',') {
                take();
                t = types.make(Types.PAIR, t, readType());
            }
            expect(')');
            shut();
            return t;
        }

        private void readE() {
            switch (kind) {
                case Lexer.FN:
                    readFn();
                    break;
                case Lexer.REC:
                    readRec();
                    break;
                case Lexer.LET:
                    readLet();
                    break;
                case Lexer.IF:
                    readIf();
                    break;
                case Lexer.CLOSE:
                    readClose();
                    break;
                default:
                    readC();
            }
        }

        private void readFn() {
            int fnAt = at;
            expectOpen(Lexer.FN);
            expectName(false);
            int fn = emitName(Code.FN);
            expect(':');
            code.a[fn] = readType();
            expect('.');
            readE();
            int end = code.emit(Code.ENDFN, fnAt);
            code.a[end] = code.a[fn];
            code.b[fn] = end;
            shut();
        }

        private void readRec() {
            int recAt = at;
            expectOpen(Lexer.REC);
            expectName(false);
            int rec = emitName(Code.REC);
            expectOpen('(');
            expectName(false);
            int arg = emitName(Code.ARG);
            expect(':');
            code.a[arg] = readType();
            expect(')');
            shut();
            expect(':');
            code.a[rec] = types.make(Types.ARROW, code.a[arg], readType());
            expect('.');
            readE();
            int end = code.emit(Code.ENDREC, recAt);
            code.a[end] = code.a[rec];
            code.b[rec] = end;
            shut();
        }

        private void readLet() {
            int start = code.used;
            expectOpen(Lexer.LET);
            expectName(false);
            long told = name;
            int toldAt = nameAt;
            expect('=');
            readE();
            expect(Lexer.IN);
            int bind = code.join(Code.BIND, toldAt, start);
            code.name[bind] = told;
            readE();
            code.emit(Code.UNBIND, toldAt);
            shut();
        }

        private void readIf() {
            int start = code.used;
            int ifAt = at;
            expectOpen(Lexer.IF);
            readE();
            expect(Lexer.THEN);
            int test = code.join(Code.TEST, ifAt, start);
            readE();
            int elseAt = at;
            expect(Lexer.ELSE);
            int middle = code.emit(Code.ELSE, elseAt);
            code.a[test] = middle + 1;
            readE();
            code.a[middle] = code.emit(Code.ENDIF, elseAt);
            shut();
        }

        private void readClose() {
            int closeAt = at;
            expectOpen(Lexer.CLOSE);
            code.emit(Code.CLOSE, closeAt);
            int last = NONE;
            int kept = 0;
            boolean more = kind != Lexer.IN;
            for (int k = 0; k <= MOST_KEPT && more; k++) {
                last = readKept(last, k == MOST_KEPT);
                kept++;
                more = kind == ',';
                if (more) {
                    take();
                }
            }
            expect(Lexer.IN);
            int in = code.emit(Code.IN, closeAt);
            code.a[in] = kept;
            code.b[in] = last;
            readE();
            int end = code.emit(Code.ENDCLOSE, closeAt);
            code.a[end] = kept;
            shut();
        }

        private int readKept(int last, boolean tooMany) {
            expectName(tooMany);
            int keep = emitName(Code.KEEP);
            code.b[keep] = last;
            expect('=');
            readE();
            int kept = code.emit(Code.KEPT, code.at[keep]);
            code.name[kept] = code.name[keep];
            code.b[kept] = last;
            return kept;
        }

        /** C, S and P in one: of each rank one sign at most waits for what stands behind it. */
        private void readC() {
            int whole = code.used;
            int sum = whole;
            int product = whole;
            int compare = NONE;
            int compareAt = NONE;
            int plus = NONE;
            int plusAt = NONE;
            int times = NONE;
            int timesAt = NONE;
            boolean more = true;
            for (int i = 0; i <= MOST_TOKENS && more; i++) {
                readA();
                joinSign(times, timesAt, product);
                times = NONE;
                int sign = kind;
                int signAt = at;
                if (sign == '*' || sign == '/' || sign == '%') {
                    times = sign;
                    timesAt = signAt;
                    take();
                    continue;
                }
                joinSign(plus, plusAt, sum);
                plus = NONE;
                if (sign == '+' || sign == '-') {
                    plus = sign;
                    plusAt = signAt;
                    take();
                    product = code.used;
                    continue;
                }
                joinSign(compare, compareAt, whole);
                more = compare == NONE && (sign == Lexer.EQUAL || sign == '<');
                if (more) {
                    compare = sign;
                    compareAt = signAt;
                    take();
                    sum = code.used;
                    product = sum;
                }
            }
        }

        private void joinSign(int sign, int signAt, int start) {
            if (sign != NONE) {
                int i = code.join(Code.BIN, signAt, start);
                code.a[i] = sign;
            }
        }

        private void readA() {
            int start = code.used;
            readU();
            for (int i = 0; i <= MOST_TOKENS && beginsU(); i++) {
                int argAt = at;
                readU();
                code.join(Code.APPLY, argAt, start);
            }
        }

        private boolean beginsU() {
            switch (kind) {
                case Lexer.NUMBER:
                case Lexer.TRUE:
                case Lexer.FALSE:
                case Lexer.NAME:
                case '(':
                case '{':
                case '~':
                case Lexer.RUN:
                case Lexer.OPEN:
                case Lexer.FST:
                case Lexer.SND:
                    return true;
                default:
                    return false;
            }
        }

        private void readU() {
            switch (kind) {
                case Lexer.NUMBER:
                    readLeaf(Code.NUM, lexer.numbers[tokens]);
                    break;
                case Lexer.TRUE:
                    readLeaf(Code.TRUTH, 1);
                    break;
                case Lexer.FALSE:
                    readLeaf(Code.TRUTH, 0);
                    break;
                case Lexer.NAME:
                    expectName(false);
                    emitName(Code.NAME);
                    break;
                case '(':
                    readInside();
                    break;
                case '{':
                    readQuote();
                    break;
                case '~':
                    readSplice();
                    break;
                case Lexer.RUN:
                    readOne(Code.RUN);
                    break;
                case Lexer.OPEN:
                    readOne(Code.OPEN);
                    break;
                case Lexer.FST:
                    readOne(Code.FST);
                    break;
                case Lexer.SND:
                    readOne(Code.SND);
                    break;
                default:
                    fail(FAULT_FORM);
            }
        }

        private void readLeaf(int what, int number) {
            int i = code.emit(what, at);
            code.a[i] = number;
            take();
        }

        private void readInside() {
            int start = code.used;
            int pairAt = at;
            expectOpen('(');
            readE();
            if (kind == ',') {
                take();
                readE();
                code.join(Code.PAIR, pairAt, start);
            }
            expect(')');
            shut();
        }

        private void readQuote() {
            int quoteAt = at;
            code.emit(Code.QUOTE, quoteAt);
            expectOpen('{');
            readE();
            expect('}');
            code.emit(Code.ENDQUOTE, quoteAt);
            shut();
        }

        private void readSplice() {
            int spliceAt = at;
            code.emit(Code.SPLICE, spliceAt);
            expectOpen('~');
            readU();
            code.emit(Code.ENDSPLICE, spliceAt);
            shut();
        }

        private void readOne(int what) {
            int start = code.used;
            int wordAt = at;
            expectOpen(kind);
            readU();
            code.join(what, wordAt, start);
            shut();
        }
    }

    /** The second round: goes along the instructions with a row of TYPES and a row of known NAMES. */
    private static final class Typer {
        // 24 that are open, and a close among them has eight NAMES at most
        static final int ROOM = 512;
        static final int WALL = -1;

        final Code code;
        final Types types;
        final int[] stack = new int[ROOM];
        final long[] toldName = new long[ROOM];
        final int[] toldType = new int[ROOM];
        final int[] toldLevel = new int[ROOM];
        final int[] toldId = new int[ROOM];
        int top;
        int told;
        int level;
        int fault;
        int place;

        Typer(Code code, Types types) {
            this.code = code;
            this.types = types;
        }

        void check(int from, int end) {
            top = 0;
            told = 0;
            level = 0;
            fault = 0;
            place = NONE;
            for (int i = from; i < end && i < Code.ROOM && fault == 0; i++) {
                if (code.isStaged(i)) {
                    checkStaged(i);
                } else if (code.isTelling(i)) {
                    checkTelling(i);
                } else {
                    checkPlain(i);
                }
            }
        }

        int result() {
            return top > 0 ? stack[top - 1] : Types.INT;
        }

        private void fail(int kind, int at) {
            if (fault == 0) {
                fault = kind;
                place = at;
            }
        }

        private void push(int t) {
            if (top < ROOM) {
                stack[top] = t;
                top++;
            }
        }

        private int pop() {
            if (top > 0) {
                top--;
            }
            return stack[top];
        }

        /** A new TYPE may be too wide. */
        private void pushMade(int t, int at) {
            if (types.isWide(t)) {
                fail(FAULT_WIDE, at);
            }
            push(t);
        }

        private void pushName(int i, int t) {
            if (told < ROOM) {
                toldName[told] = code.name[i];
                toldType[told] = t;
                toldLevel[told] = level;
                toldId[told] = i;
                told++;
            }
        }

        private void dropNames(int k) {
            told = Math.max(0, told - k);
        }

        private void checkPlain(int i) {
            switch (code.op[i]) {
                case Code.NUM:
                    push(Types.INT);
                    break;
                case Code.TRUTH:
                    push(Types.BOOL);
                    break;
                case Code.NAME:
                    useName(i);
                    break;
                case Code.BIN:
                    checkSign(i);
                    break;
                case Code.APPLY:
                    checkApply(i);
                    break;
                case Code.PAIR:
                    int last = pop();
                    pushMade(types.make(Types.PAIR, pop(), last), code.at[i]);
                    break;
                case Code.FST:
                    pushInner(Types.PAIR, i);
                    break;
                case Code.SND:
                    int second = types.rightOf(result());
                    pushInner(Types.PAIR, i);
                    pop();
                    push(second);
                    break;
                case Code.TEST:
                    if (pop() != Types.BOOL) {
                        fail(FAULT_TYPE, code.at[i]);
                    }
                    break;
                case Code.ENDIF:
                    if (!types.isSame(pop(), result(), 0)) {
                        fail(FAULT_TYPE, code.at[i]);
                    }
                    break;
                default:
                    break;
            }
        }

        private void checkTelling(int i) {
            switch (code.op[i]) {
                case Code.FN:
                    checkWidth(i);
                    pushName(i, code.a[i]);
                    break;
                case Code.ENDFN:
                    dropNames(1);
                    pushMade(types.make(Types.ARROW, code.a[i], pop()), code.at[i]);
                    break;
                case Code.REC:
                    checkWidth(i + 1);
                    checkWidth(i);
                    pushName(i, code.a[i]);
                    break;
                case Code.ARG:
                case Code.PARAM:
                    pushName(i, code.a[i]);
                    break;
                case Code.ENDREC:
                    dropNames(2);
                    checkGiven(types.rightOf(code.a[i]), code.at[i]);
                    push(code.a[i]);
                    break;
                case Code.BIND:
                    pushName(i, pop());
                    break;
                case Code.UNBIND:
                    dropNames(1);
                    break;
                case Code.DEF:
                    checkDef(i);
                    break;
                case Code.ENDDEF:
                    dropNames(told);
                    checkGiven(code.a[i], code.at[i]);
                    break;
                default:
                    break;
            }
        }

        private void checkStaged(int i) {
            switch (code.op[i]) {
                case Code.KEEP:
                    checkKeep(i);
                    break;
                case Code.KEPT:
                    if (types.kindOf(result()) != Types.BOX) {
                        fail(FAULT_TYPE, code.at[i]);
                    }
                    break;
                case Code.IN:
                    enterClosed(i);
                    break;
                case Code.ENDCLOSE:
                    dropNames(code.a[i] + 1);
                    pushMade(types.make(Types.BOX, pop(), Types.INT), code.at[i]);
                    break;
                case Code.QUOTE:
                    if (level == TOP_LEVEL) {
                        fail(FAULT_LEVEL, code.at[i]);
                    }
                    level++;
                    break;
                case Code.ENDQUOTE:
                    level--;
                    pushMade(types.make(Types.CODE, pop(), Types.INT), code.at[i]);
                    break;
                case Code.SPLICE:
                    if (level == 0) {
                        fail(FAULT_LEVEL, code.at[i]);
                    }
                    level--;
                    break;
                case Code.ENDSPLICE:
                    level++;
                    pushInner(Types.CODE, i);
                    break;
                case Code.OPEN:
                    pushInner(Types.BOX, i);
                    break;
                case Code.RUN:
                    pushInner(Types.BOX, i);
                    pushInner(Types.CODE, i);
                    push(types.make(Types.BOX, pop(), Types.INT));
                    break;
                default:
                    break;
            }
        }

        private void checkWidth(int i) {
            if (code.has(i) && types.isWide(code.a[i])) {
                fail(FAULT_WIDE, code.at[i]);
            }
        }

        private void checkGiven(int wanted, int at) {
            if (!types.isSame(pop(), wanted, 0)) {
                fail(FAULT_TYPE, at);
            }
        }

        /** For a TYPE of that kind what is within it. */
        private void pushInner(int kind, int i) {
            int t = pop();
            if (types.kindOf(t) != kind) {
                fail(FAULT_TYPE, code.at[i]);
            }
            push(types.leftOf(t));
        }

        private void useName(int i) {
            int s = findName(code.name[i]);
            if (s != NONE) {
                int t = toldType[s];
                if (toldLevel[s] > level || toldLevel[s] < level && !types.isPlain(t)) {
                    fail(FAULT_LEVEL, code.at[i]);
                }
                code.op[i] = Code.VAR;
                code.id[i] = toldId[s];
                push(t);
                return;
            }
            int k = code.findDef(code.name[i]);
            if (k == NONE) {
                fail(FAULT_NAME, code.at[i]);
                return;
            }
            code.op[i] = Code.DEFREF;
            code.a[i] = k;
            push(code.a[code.defAt(k)]);
        }

        private int findName(long wanted) {
            for (int s = told - 1; s >= 0 && toldId[s] != WALL; s--) {
                if (toldName[s] == wanted) {
                    return s;
                }
            }
            return NONE;
        }

        private void checkSign(int i) {
            int second = pop();
            int first = pop();
            int sign = code.a[i];
            boolean ints = first == Types.INT && second == Types.INT;
            boolean bools = first == Types.BOOL && second == Types.BOOL;
            if (!ints && !(bools && sign == Lexer.EQUAL)) {
                fail(FAULT_TYPE, code.at[i]);
            }
            push(sign == Lexer.EQUAL || sign == '<' ? Types.BOOL : Types.INT);
        }

        private void checkApply(int i) {
            int given = pop();
            int f = pop();
            if (types.kindOf(f) != Types.ARROW || !types.isSame(types.leftOf(f), given, 0)) {
                fail(FAULT_TYPE, code.at[i]);
            }
            push(types.rightOf(f));
        }

        private void checkDef(int i) {
            if (code.findDef(code.name[i]) != NONE) {
                fail(FAULT_TWICE, code.at[i]);
            }
            int params = code.b[i];
            for (int p = i + 1; p <= i + params && p < Code.ROOM; p++) {
                for (int ahead = i + 1; ahead < p; ahead++) {
                    if (code.name[ahead] == code.name[p]) {
                        fail(FAULT_TWICE, code.at[p]);
                    }
                }
                checkWidth(p);
            }
            checkWidth(i);
            code.addDef(i);
        }

        private void checkKeep(int i) {
            int ahead = code.b[i];
            for (int k = 0; k <= MOST_KEPT && code.has(ahead); k++) {
                if (code.name[ahead] == code.name[i]) {
                    fail(FAULT_TWICE, code.at[i]);
                }
                ahead = code.b[ahead];
            }
        }

        /** The last E of a close knows its NAMES and DEFS alone. */
        private void enterClosed(int i) {
            if (told < ROOM) {
                toldId[told] = WALL;
                told++;
            }
            int kept = code.b[i];
            for (int k = 0; k < code.a[i] && code.has(kept); k++) {
                pushName(kept, pop());
                kept = code.b[kept];
            }
        }
    }

    /** What is BUILT in a question: PARTS that may stand in several CODES at once. */
    private static final class Nodes {
        static final int ROOM = MOST_PARTS + 4;
        static final int NAMES = MOST_KEPT * (MOST_PARTS + 1);

        // as the instruction that makes it
        final int[] kind = new int[ROOM];
        // a number, a sign, a DEF, or the first NAME that is told
        final int[] what = new int[ROOM];
        // a TYPE, or where the row of a close begins
        final int[] more = new int[ROOM];
        final int[] first = new int[ROOM];
        final int[] second = new int[ROOM];
        final int[] third = new int[ROOM];
        final int[] size = new int[ROOM];
        final int[] height = new int[ROOM];
        // how many NAMES a close has, then their E's, for each close
        final int[] kept = new int[NAMES + ROOM];
        // how a NAME is written
        final int[] number = new int[NAMES];
        int used;
        int keptUsed;
        int names;

        void clear() {
            used = 0;
            keptUsed = 0;
            names = 0;
        }

        boolean has(int i) {
            return i >= 0 && i < ROOM;
        }

        int make(int k, int w, int m) {
            int i = used;
            if (used < ROOM - 1) {
                used++;
            }
            kind[i] = k;
            what[i] = w;
            more[i] = m;
            first[i] = NONE;
            second[i] = NONE;
            third[i] = NONE;
            size[i] = 1;
            height[i] = 1;
            return i;
        }

        int makeOne(int k, int w, int e) {
            int i = make(k, w, 0);
            first[i] = e;
            measure(i, e);
            return i;
        }

        int makeTwo(int k, int w, int e, int f) {
            int i = make(k, w, 0);
            first[i] = e;
            second[i] = f;
            measure(i, e);
            measure(i, f);
            return i;
        }

        void measure(int i, int part) {
            if (part >= 0 && part < ROOM) {
                size[i] += size[part];
                height[i] = Math.max(height[i], 1 + height[part]);
            }
        }

        int newNames(int k) {
            int n = names;
            if (names + k <= NAMES) {
                names += k;
                return n;
            }
            return 0;
        }

        int keep(int e) {
            int i = keptUsed;
            if (keptUsed < kept.length - 1) {
                keptUsed++;
            }
            kept[i] = e;
            return i;
        }

        int keptAt(int i) {
            return i >= 0 && i < kept.length ? kept[i] : 0;
        }
    }

    /** Values: the row of those that wait, the known NAMES as chains, and what has parts. */
    private static final class Store {
        static final int INT = 0;
        static final int TRUTH = 1;
        static final int PAIR = 2;
        static final int FUNCTION = 3;
        static final int CODE = 4;
        static final int BOX = 5;
        // in the chains: a NAME that is told in what is BUILT
        static final int BUILT = 6;

        static final int FIRST_ROOM = 512;
        // 101 E's at once, of some 300 that wait in each at most
        static final int LAST_ROOM = 65536;
        static final int CHAIN_ROOM = MOST_STEPS + MOST_KEPT * (MOST_PARTS + 1) + 10;
        static final int CELL_ROOM = MOST_STEPS + 10;

        int[] tag = new int[FIRST_ROOM];
        int[] val = new int[FIRST_ROOM];
        int top;
        // link 0 is the end of every chain
        final int[] up = new int[CHAIN_ROOM];
        final int[] linkId = new int[CHAIN_ROOM];
        final int[] linkTag = new int[CHAIN_ROOM];
        final int[] linkVal = new int[CHAIN_ROOM];
        int links;
        int chain;
        // a pair: tag, val, tag, val; a BOX: tag, val; a FUNCTION: its NAME's instruction, its chain
        final int[] cellA = new int[CELL_ROOM];
        final int[] cellB = new int[CELL_ROOM];
        final int[] cellC = new int[CELL_ROOM];
        final int[] cellD = new int[CELL_ROOM];
        int cells;
        int level;

        void clear() {
            top = 0;
            links = 1;
            chain = 0;
            cells = 0;
            level = 0;
        }

        void push(int t, int v) {
            if (top == tag.length && top < LAST_ROOM) {
                tag = Arrays.copyOf(tag, 2 * top);
                val = Arrays.copyOf(val, 2 * top);
            }
            if (top < tag.length) {
                tag[top] = t;
                val[top] = v;
                top++;
            }
        }

        /** Where the last value stands; it is good until the next push. */
        int pop() {
            if (top > 0) {
                top--;
            }
            return top;
        }

        int popVal() {
            return val[pop()];
        }

        int link(int id, int t, int v, int behind) {
            int i = links;
            if (links < CHAIN_ROOM - 1) {
                links++;
            }
            up[i] = behind;
            linkId[i] = id;
            linkTag[i] = t;
            linkVal[i] = v;
            return i;
        }

        private boolean isLink(int i) {
            return i > 0 && i < CHAIN_ROOM;
        }

        int find(int id) {
            int i = chain;
            for (int k = 0; k < CHAIN_ROOM && isLink(i) && linkId[i] != id; k++) {
                i = up[i];
            }
            return isLink(i) ? i : 0;
        }

        void unlink(int k) {
            for (int i = 0; i < k && isLink(chain); i++) {
                chain = up[chain];
            }
        }

        /** What the NAME that was told last stands for. */
        int lastVal() {
            return isLink(chain) ? linkVal[chain] : 0;
        }

        int cell(int a, int b, int c, int d) {
            int i = cells;
            if (cells < CELL_ROOM - 1) {
                cells++;
            }
            cellA[i] = a;
            cellB[i] = b;
            cellC[i] = c;
            cellD[i] = d;
            return i;
        }

        private boolean isCell(int i) {
            return i >= 0 && i < cells;
        }

        /** Of a pair the first, of a BOX what is in it. */
        void pushFirst(int i) {
            if (isCell(i)) {
                push(cellA[i], cellB[i]);
            }
        }

        void pushSecond(int i) {
            if (isCell(i)) {
                push(cellC[i], cellD[i]);
            }
        }
    }

    /** Goes along the instructions at the LEVELS above 0; and makes CODE instructions again. */
    private static final class Builder {
        final Code code;
        final Nodes nodes;
        final Store store;
        int parts;
        boolean full;

        Builder(Code code, Nodes nodes, Store store) {
            this.code = code;
            this.nodes = nodes;
            this.store = store;
        }

        void clear() {
            nodes.clear();
            parts = 0;
            full = false;
        }

        void build(int i) {
            begin(code.begins[i]);
            if (code.isStaged(i)) {
                buildStaged(i);
            } else if (code.isTelling(i)) {
                buildTelling(i);
            } else {
                buildPlain(i);
            }
        }

        private void buildPlain(int i) {
            switch (code.op[i]) {
                case Code.NUM:
                case Code.TRUTH:
                case Code.DEFREF:
                    begin(1);
                    push(nodes.make(code.op[i], code.a[i], 0));
                    break;
                case Code.VAR:
                    buildName(i);
                    break;
                case Code.BIN:
                case Code.APPLY:
                case Code.PAIR:
                    int second = store.popVal();
                    push(nodes.makeTwo(code.op[i], code.a[i], store.popVal(), second));
                    break;
                case Code.FST:
                case Code.SND:
                    push(nodes.makeOne(code.op[i], 0, store.popVal()));
                    break;
                case Code.ENDIF:
                    buildIf();
                    break;
                default:
                    break;
            }
        }

        private void buildTelling(int i) {
            switch (code.op[i]) {
                case Code.FN:
                case Code.REC:
                    begin(1);
                    tellNew(i);
                    break;
                case Code.ARG:
                case Code.BIND:
                    tellNew(i);
                    break;
                case Code.ENDFN:
                    buildFunction(Code.FN, code.a[i], 1);
                    break;
                case Code.ENDREC:
                    buildFunction(Code.REC, code.a[i], 2);
                    break;
                case Code.UNBIND:
                    int second = store.popVal();
                    push(nodes.makeTwo(Code.BIND, untell(1), store.popVal(), second));
                    break;
                default:
                    break;
            }
        }

        private void buildStaged(int i) {
            switch (code.op[i]) {
                case Code.CLOSE:
                    begin(1);
                    break;
                case Code.IN:
                    tellKept(i);
                    break;
                case Code.ENDCLOSE:
                    buildClose(code.a[i]);
                    break;
                case Code.QUOTE:
                    begin(1);
                    store.level++;
                    break;
                case Code.ENDQUOTE:
                    endQuote();
                    break;
                case Code.SPLICE:
                    // at LEVEL 1 it is no PART: a CODE's E will stand there
                    begin(store.level > 1 ? 1 : 0);
                    store.level--;
                    break;
                case Code.ENDSPLICE:
                    store.level++;
                    push(nodes.makeOne(Code.SPLICE, 0, store.popVal()));
                    break;
                case Code.OPEN:
                case Code.RUN:
                    push(nodes.makeOne(code.op[i], 0, store.popVal()));
                    break;
                default:
                    break;
            }
        }

        /** PARTS are counted one by one, and the first that is too many ends it. */
        private void begin(int k) {
            parts += k;
            if (parts > MOST_PARTS) {
                parts = MOST_PARTS;
                full = true;
            }
        }

        private void push(int node) {
            store.push(Store.CODE, node);
        }

        private void tellNew(int i) {
            store.chain = store.link(code.id[i], Store.BUILT, nodes.newNames(1), store.chain);
        }

        /** The first of the last k NAMES that were told, which are known no more. */
        private int untell(int k) {
            store.unlink(k - 1);
            int told = store.lastVal();
            store.unlink(1);
            return told;
        }

        private void tellKept(int i) {
            int count = code.a[i];
            int told = nodes.newNames(count);
            int kept = code.b[i];
            for (int k = count - 1; k >= 0 && code.has(kept); k--) {
                store.chain = store.link(code.id[kept], Store.BUILT, told + k, store.chain);
                kept = code.b[kept];
            }
        }

        private void buildFunction(int kind, int type, int told) {
            int node = nodes.makeOne(kind, untell(told), store.popVal());
            nodes.more[node] = type;
            push(node);
        }

        private void buildIf() {
            int third = store.popVal();
            int second = store.popVal();
            int node = nodes.makeTwo(Code.TEST, 0, store.popVal(), second);
            nodes.third[node] = third;
            nodes.measure(node, third);
            push(node);
        }

        private void buildClose(int count) {
            int body = store.popVal();
            // the first NAME of a close is the last that was linked
            int told = count == 0 ? 0 : store.lastVal();
            store.unlink(count);
            int node = nodes.makeOne(Code.CLOSE, told, body);
            nodes.more[node] = nodes.keep(count);
            int from = Math.max(0, store.top - count);
            for (int k = from; k < store.top && k < store.val.length; k++) {
                nodes.keep(store.val[k]);
                nodes.measure(node, store.val[k]);
            }
            store.top = from;
            push(node);
        }

        private void endQuote() {
            store.level--;
            int node = store.popVal();
            if (store.level > 0) {
                push(nodes.makeOne(Code.QUOTE, 0, node));
                return;
            }
            if (nodes.has(node) && (nodes.size[node] > MOST_SIZE || nodes.height[node] > MOST_HEIGHT)) {
                full = true;
            }
            push(node);
        }

        private void buildName(int i) {
            int link = store.find(code.id[i]);
            if (store.linkTag[link] == Store.BUILT) {
                begin(1);
                push(nodes.make(Code.VAR, store.linkVal[link], 0));
            } else {
                push(lift(store.linkTag[link], store.linkVal[link], 0));
            }
        }

        /** A value of a PLAIN TYPE, made of PARTS. */
        private int lift(int tag, int val, int deep) {
            begin(1);
            if (full || deep > WIDEST) {
                return 0;
            }
            if (tag == Store.PAIR && store.isCell(val)) {
                int l = lift(store.cellA[val], store.cellB[val], deep + 1);
                int r = lift(store.cellC[val], store.cellD[val], deep + 1);
                return nodes.makeTwo(Code.PAIR, 0, l, r);
            }
            if (tag == Store.TRUTH) {
                return nodes.make(Code.TRUTH, val, 0);
            }
            if (val >= 0) {
                return nodes.make(Code.NUM, val, 0);
            }
            // the lowest int has no counterpart above 0
            boolean lowest = val == LOWEST_INT;
            int l = lift(Store.INT, lowest ? val + 1 : 0, deep + 1);
            int r = lift(Store.INT, lowest ? 1 : -val, deep + 1);
            return nodes.makeTwo(Code.BIN, '-', l, r);
        }

        /** All PARTS of a CODE's E at once, or none. */
        boolean canPress(int node) {
            if (!nodes.has(node) || parts + nodes.size[node] > MOST_PARTS) {
                return false;
            }
            parts += nodes.size[node];
            return true;
        }

        private void press(int node, int deep) {
            if (!nodes.has(node) || deep > MOST_HEIGHT) {
                return;
            }
            int start = code.used;
            int what = nodes.what[node];
            switch (nodes.kind[node]) {
                case Code.FN:
                    pressFn(node, deep);
                    break;
                case Code.REC:
                    pressRec(node, deep);
                    break;
                case Code.BIND:
                    press(nodes.first[node], deep + 1);
                    code.id[code.join(Code.BIND, 0, start)] = what;
                    press(nodes.second[node], deep + 1);
                    code.emit(Code.UNBIND, 0);
                    break;
                case Code.TEST:
                    pressIf(node, deep);
                    break;
                case Code.CLOSE:
                    pressClose(node, deep);
                    break;
                case Code.QUOTE:
                    code.emit(Code.QUOTE, 0);
                    press(nodes.first[node], deep + 1);
                    code.emit(Code.ENDQUOTE, 0);
                    break;
                case Code.SPLICE:
                    code.emit(Code.SPLICE, 0);
                    press(nodes.first[node], deep + 1);
                    code.emit(Code.ENDSPLICE, 0);
                    break;
                default:
                    pressPlain(node, deep);
            }
        }

        private void pressPlain(int node, int deep) {
            int kind = nodes.kind[node];
            int start = code.used;
            press(nodes.first[node], deep + 1);
            press(nodes.second[node], deep + 1);
            boolean leaf = nodes.first[node] < 0;
            int i = leaf ? code.emit(kind, 0) : code.join(kind, 0, start);
            code.a[i] = nodes.what[node];
            code.id[i] = nodes.what[node];
        }

        private void pressFn(int node, int deep) {
            int fn = code.emit(Code.FN, 0);
            code.a[fn] = nodes.more[node];
            code.id[fn] = nodes.what[node];
            press(nodes.first[node], deep + 1);
            int end = code.emit(Code.ENDFN, 0);
            code.a[end] = code.a[fn];
            code.b[fn] = end;
        }

        private void pressRec(int node, int deep) {
            int rec = code.emit(Code.REC, 0);
            code.id[rec] = nodes.what[node];
            code.id[code.emit(Code.ARG, 0)] = nodes.what[node] + 1;
            press(nodes.first[node], deep + 1);
            int end = code.emit(Code.ENDREC, 0);
            code.a[end] = nodes.more[node];
            code.b[rec] = end;
        }

        private void pressIf(int node, int deep) {
            int start = code.used;
            press(nodes.first[node], deep + 1);
            int test = code.join(Code.TEST, 0, start);
            press(nodes.second[node], deep + 1);
            int middle = code.emit(Code.ELSE, 0);
            code.a[test] = middle + 1;
            press(nodes.third[node], deep + 1);
            code.a[middle] = code.emit(Code.ENDIF, 0);
        }

        private void pressClose(int node, int deep) {
            code.emit(Code.CLOSE, 0);
            int row = nodes.more[node];
            int count = nodes.keptAt(row);
            int last = NONE;
            for (int k = 0; k < count && k < MOST_KEPT; k++) {
                press(nodes.keptAt(row + 1 + k), deep + 1);
                int kept = code.emit(Code.KEPT, 0);
                code.id[kept] = nodes.what[node] + k;
                code.b[kept] = last;
                last = kept;
            }
            int in = code.emit(Code.IN, 0);
            code.a[in] = count;
            code.b[in] = last;
            press(nodes.first[node], deep + 1);
            code.a[code.emit(Code.ENDCLOSE, 0)] = count;
        }
    }

    /** Goes along the instructions at LEVEL 0; hands those of the LEVELS above to the builder. */
    private static final class Machine {
        // 501 E's of some 1,600 instructions at most
        static final int MOST_MOVES = 2000000;

        final Code code;
        final Store store;
        final Builder builder;
        final int[] backTo = new int[MOST_BEGUN];
        final int[] backChain = new int[MOST_BEGUN];
        int begun;
        int deepest;
        int steps;
        int allowed;
        boolean erased;
        boolean going;
        int end;
        int pc;

        Machine(Code code, Store store, Builder builder) {
            this.code = code;
            this.store = store;
            this.builder = builder;
        }

        /** The END, or 0: then the value stands first in the store. */
        int work(int start, int steps, boolean erased) {
            store.clear();
            builder.clear();
            code.startPressed();
            this.begun = 0;
            this.deepest = 0;
            this.steps = 0;
            this.allowed = steps;
            this.erased = erased;
            this.going = true;
            this.end = 0;
            this.pc = start;
            for (int i = 0; i < MOST_MOVES && going && end == 0; i++) {
                int here = pc;
                pc++;
                if (!code.has(here)) {
                    going = false;
                } else if (store.level == 0) {
                    move(here);
                } else {
                    builder.build(here);
                    end = builder.full ? END_FULL : 0;
                }
            }
            return end;
        }

        private void move(int i) {
            if (code.isStaged(i)) {
                moveStaged(i);
            } else if (code.isTelling(i)) {
                moveTelling(i);
            } else {
                movePlain(i);
            }
        }

        /** Whether one more STEP was allowed. */
        private boolean step() {
            if (steps >= allowed) {
                end = END_STEPS;
                return false;
            }
            steps++;
            return true;
        }

        private void movePlain(int i) {
            switch (code.op[i]) {
                case Code.NUM:
                    store.push(Store.INT, code.a[i]);
                    break;
                case Code.TRUTH:
                    store.push(Store.TRUTH, code.a[i]);
                    break;
                case Code.VAR:
                    int link = store.find(code.id[i]);
                    store.push(store.linkTag[link], store.linkVal[link]);
                    break;
                case Code.DEFREF:
                    // a DEF without arguments needs no cell: its first NAME tells all
                    store.push(Store.FUNCTION, ~(code.defAt(code.a[i]) + 1));
                    break;
                case Code.BIN:
                    operate(code.a[i]);
                    break;
                case Code.APPLY:
                    apply();
                    break;
                case Code.PAIR:
                    makePair();
                    break;
                case Code.FST:
                    store.pushFirst(store.popVal());
                    break;
                case Code.SND:
                    store.pushSecond(store.popVal());
                    break;
                case Code.TEST:
                    if (store.popVal() == 0) {
                        pc = code.a[i];
                    }
                    break;
                case Code.ELSE:
                    pc = code.a[i];
                    break;
                case Code.STOP:
                    going = false;
                    break;
                default:
                    break;
            }
        }

        private void moveTelling(int i) {
            switch (code.op[i]) {
                case Code.FN:
                    makeFunction(i);
                    break;
                case Code.REC:
                    makeRecursive(i);
                    break;
                case Code.ENDFN:
                case Code.ENDREC:
                case Code.ENDDEF:
                    goBack();
                    break;
                case Code.BIND:
                    if (step()) {
                        int bound = store.pop();
                        store.chain = store.link(code.id[i], store.tag[bound], store.val[bound], store.chain);
                    }
                    break;
                case Code.UNBIND:
                    store.unlink(1);
                    break;
                default:
                    break;
            }
        }

        private void moveStaged(int i) {
            if (code.op[i] == Code.IN) {
                enterClosed(i);
            }
            if (code.op[i] == Code.ENDCLOSE) {
                store.unlink(code.a[i]);
            }
            if (erased) {
                return;
            }
            switch (code.op[i]) {
                case Code.ENDCLOSE:
                    box();
                    break;
                case Code.OPEN:
                    store.pushFirst(store.popVal());
                    break;
                case Code.RUN:
                    run();
                    break;
                case Code.ENDRUN:
                    box();
                    goBack();
                    break;
                case Code.QUOTE:
                    store.level = 1;
                    break;
                case Code.ENDSPLICE:
                    // the E of the CODE that lies there now stands in what is BUILT
                    store.level = 1;
                    break;
                default:
                    break;
            }
        }

        private void operate(int sign) {
            int second = store.popVal();
            int first = store.popVal();
            switch (sign) {
                case '+':
                    store.push(Store.INT, first + second);
                    break;
                case '-':
                    store.push(Store.INT, first - second);
                    break;
                case '*':
                    store.push(Store.INT, first * second);
                    break;
                case '<':
                    store.push(Store.TRUTH, first < second ? 1 : 0);
                    break;
                case Lexer.EQUAL:
                    store.push(Store.TRUTH, first == second ? 1 : 0);
                    break;
                default:
                    if (second == 0) {
                        end = END_ZERO;
                    } else {
                        store.push(Store.INT, sign == '/' ? first / second : first % second);
                    }
            }
        }

        private void makePair() {
            if (step()) {
                int second = store.pop();
                int first = store.pop();
                int made = store.cell(store.tag[first], store.val[first], store.tag[second], store.val[second]);
                store.push(Store.PAIR, made);
            }
        }

        private void box() {
            int inner = store.pop();
            store.push(Store.BOX, store.cell(store.tag[inner], store.val[inner], 0, 0));
        }

        private void makeFunction(int i) {
            if (step()) {
                store.push(Store.FUNCTION, store.cell(i, store.chain, 0, 0));
                pc = code.b[i] + 1;
            }
        }

        private void makeRecursive(int i) {
            if (step()) {
                int made = store.cell(i + 1, 0, 0, 0);
                store.cellB[made] = store.link(code.id[i], Store.FUNCTION, made, store.chain);
                store.push(Store.FUNCTION, made);
                pc = code.b[i] + 1;
            }
        }

        private void enterClosed(int i) {
            int count = code.a[i];
            for (int k = 0; k <= count; k++) {
                if (!step()) {
                    return;
                }
            }
            int kept = code.b[i];
            for (int k = 0; k < count && code.has(kept); k++) {
                int bound = store.pop();
                store.chain = store.link(code.id[kept], store.tag[bound], store.val[bound], store.chain);
                kept = code.b[kept];
            }
        }

        /** Whether an APPLICATION or a run may begin; then it is a STEP. */
        private boolean canBegin() {
            if (steps < allowed && begun == MOST_BEGUN) {
                end = END_DEEP;
                return false;
            }
            return step();
        }

        private void goInto(int to, int chain) {
            if (begun < MOST_BEGUN) {
                backTo[begun] = pc;
                backChain[begun] = store.chain;
                begun++;
                deepest = Math.max(deepest, begun);
                store.chain = chain;
                pc = to;
            }
        }

        private void goBack() {
            if (begun > 0) {
                begun--;
                pc = backTo[begun];
                store.chain = backChain[begun];
            }
        }

        private void apply() {
            if (!canBegin()) {
                return;
            }
            int given = store.pop();
            int f = store.popVal();
            boolean bare = !store.isCell(f);
            int told = bare ? ~f : store.cellA[f];
            int chain = bare ? 0 : store.cellB[f];
            if (!code.has(told) || !code.has(told + 1)) {
                return;
            }
            chain = store.link(code.id[told], store.tag[given], store.val[given], chain);
            if (code.op[told + 1] == Code.PARAM) {
                store.push(Store.FUNCTION, store.cell(told + 1, chain, 0, 0));
            } else {
                goInto(told + 1, chain);
            }
        }

        private void run() {
            if (!canBegin()) {
                return;
            }
            store.pushFirst(store.popVal());
            int node = store.popVal();
            goInto(code.used, 0);
            if (builder.canPress(node)) {
                builder.press(node, 0);
                code.emit(Code.ENDRUN, 0);
            } else {
                end = END_FULL;
            }
        }
    }

    /** A text of bytes that TYPES and values are written to, and no more than it has room for. */
    private static final class Writer {
        // values and CODES are no deeper than their TYPES' PARTS and MOST_HEIGHT
        static final int DEEPEST = 110;

        final Code code;
        final Types types;
        final Nodes nodes;
        final Store store;
        final byte[] text;
        int size;
        boolean over;
        int told;

        Writer(int room, Code code, Types types, Nodes nodes, Store store) {
            this.text = new byte[room];
            this.code = code;
            this.types = types;
            this.nodes = nodes;
            this.store = store;
        }

        void clear() {
            size = 0;
            over = false;
        }

        void take(Writer other) {
            size = Math.min(other.size, text.length);
            System.arraycopy(other.text, 0, text, 0, size);
        }

        private void put(int c) {
            if (size < text.length) {
                text[size] = (byte) c;
                size++;
            } else {
                over = true;
            }
        }

        private void put(String s) {
            for (int i = 0; i < s.length(); i++) {
                put(s.charAt(i));
            }
        }

        private void putInt(int n) {
            long rest = n;
            if (rest < 0) {
                put('-');
                rest = -rest;
            }
            long unit = 1;
            for (int i = 0; i < 10 && unit * 10 <= rest; i++) {
                unit *= 10;
            }
            for (int i = 0; i < 11 && unit > 0; i++) {
                put((int) ('0' + rest / unit % 10));
                unit /= 10;
            }
        }

        private void putName(long name) {
            for (int shift = 56; shift >= 0; shift -= 8) {
                int c = (int) (name >> shift) & 255;
                if (c != 0) {
                    put(c);
                }
            }
        }

        private void putType(int t, int deep) {
            if (over || deep > DEEPEST) {
                return;
            }
            switch (types.kindOf(t)) {
                case Types.INT:
                    put("int");
                    break;
                case Types.BOOL:
                    put("bool");
                    break;
                case Types.CODE:
                    put("code ");
                    putSort(types.leftOf(t), deep + 1);
                    break;
                case Types.BOX:
                    put("box ");
                    putSort(types.leftOf(t), deep + 1);
                    break;
                case Types.PAIR:
                    put('(');
                    putType(types.leftOf(t), deep + 1);
                    put(',');
                    putType(types.rightOf(t), deep + 1);
                    put(')');
                    break;
                default:
                    putSort(types.leftOf(t), deep + 1);
                    put("->");
                    putType(types.rightOf(t), deep + 1);
            }
        }

        private void putSort(int t, int deep) {
            boolean arrow = types.kindOf(t) == Types.ARROW;
            if (arrow) {
                put('(');
            }
            putType(t, deep);
            if (arrow) {
                put(')');
            }
        }

        private void putValue(int tag, int val, int deep) {
            if (over || deep > DEEPEST) {
                return;
            }
            switch (tag) {
                case Store.INT:
                    putInt(val);
                    break;
                case Store.TRUTH:
                    put(val == 0 ? "false" : "true");
                    break;
                case Store.PAIR:
                    putPair(val, deep);
                    break;
                case Store.FUNCTION:
                    put("fn");
                    break;
                case Store.BOX:
                    put("box ");
                    if (store.isCell(val)) {
                        putValue(store.cellA[val], store.cellB[val], deep + 1);
                    }
                    break;
                default:
                    told = 0;
                    put('{');
                    putNode(val, deep + 1);
                    put('}');
            }
        }

        private void putPair(int cell, int deep) {
            if (store.isCell(cell)) {
                put('(');
                putValue(store.cellA[cell], store.cellB[cell], deep + 1);
                put(',');
                putValue(store.cellC[cell], store.cellD[cell], deep + 1);
                put(')');
            }
        }

        private void putNode(int node, int deep) {
            if (over || deep > DEEPEST || !nodes.has(node)) {
                return;
            }
            switch (nodes.kind[node]) {
                case Code.BIN:
                    putTwo(node, nodes.what[node], deep);
                    break;
                case Code.APPLY:
                    putTwo(node, ' ', deep);
                    break;
                case Code.PAIR:
                    putTwo(node, ',', deep);
                    break;
                case Code.QUOTE:
                    putOne("{", node, "}", deep);
                    break;
                case Code.SPLICE:
                    putOne("(~", node, ")", deep);
                    break;
                case Code.RUN:
                    putOne("(run ", node, ")", deep);
                    break;
                case Code.OPEN:
                    putOne("(open ", node, ")", deep);
                    break;
                case Code.FST:
                    putOne("(fst ", node, ")", deep);
                    break;
                case Code.SND:
                    putOne("(snd ", node, ")", deep);
                    break;
                case Code.FN:
                    putFn(node, deep);
                    break;
                case Code.REC:
                    putRec(node, deep);
                    break;
                case Code.BIND:
                    putLet(node, deep);
                    break;
                case Code.TEST:
                    putIf(node, deep);
                    break;
                case Code.CLOSE:
                    putClose(node, deep);
                    break;
                default:
                    putLeaf(nodes.kind[node], nodes.what[node]);
            }
        }

        private void putLeaf(int kind, int what) {
            switch (kind) {
                case Code.NUM:
                    putInt(what);
                    break;
                case Code.TRUTH:
                    put(what == 0 ? "false" : "true");
                    break;
                case Code.VAR:
                    putTold(what);
                    break;
                default:
                    putName(code.name[code.defAt(what)]);
            }
        }

        private void putTwo(int node, int sign, int deep) {
            put('(');
            putNode(nodes.first[node], deep + 1);
            if (sign == Lexer.EQUAL) {
                put("==");
            } else {
                put(sign);
            }
            putNode(nodes.second[node], deep + 1);
            put(')');
        }

        private void putOne(String head, int node, String tail, int deep) {
            put(head);
            putNode(nodes.first[node], deep + 1);
            put(tail);
        }

        private void putFn(int node, int deep) {
            put("(fn ");
            putNew(nodes.what[node]);
            put(':');
            putType(nodes.more[node], 0);
            put('.');
            putNode(nodes.first[node], deep + 1);
            put(')');
        }

        private void putRec(int node, int deep) {
            int type = nodes.more[node];
            put("(rec ");
            putNew(nodes.what[node]);
            put('(');
            putNew(nodes.what[node] + 1);
            put(':');
            putType(types.leftOf(type), 0);
            put("):");
            putType(types.rightOf(type), 0);
            put('.');
            putNode(nodes.first[node], deep + 1);
            put(')');
        }

        private void putLet(int node, int deep) {
            put("(let ");
            putNew(nodes.what[node]);
            put('=');
            putNode(nodes.first[node], deep + 1);
            put(" in ");
            putNode(nodes.second[node], deep + 1);
            put(')');
        }

        private void putIf(int node, int deep) {
            put("(if ");
            putNode(nodes.first[node], deep + 1);
            put(" then ");
            putNode(nodes.second[node], deep + 1);
            put(" else ");
            putNode(nodes.third[node], deep + 1);
            put(')');
        }

        /** All NAMES of a close have their numbers ahead of its E's. */
        private void putClose(int node, int deep) {
            int row = nodes.more[node];
            int count = nodes.keptAt(row);
            for (int k = 0; k < count; k++) {
                number(nodes.what[node] + k);
            }
            put("(close ");
            for (int k = 0; k < count && k < MOST_KEPT; k++) {
                if (k > 0) {
                    put(',');
                }
                putTold(nodes.what[node] + k);
                put('=');
                putNode(nodes.keptAt(row + 1 + k), deep + 1);
            }
            put(count == 0 ? "in " : " in ");
            putNode(nodes.first[node], deep + 1);
            put(')');
        }

        private void number(int name) {
            if (name >= 0 && name < nodes.number.length) {
                nodes.number[name] = told;
                told++;
            }
        }

        private void putNew(int name) {
            number(name);
            putTold(name);
        }

        private void putTold(int name) {
            put('x');
            putInt(name >= 0 && name < nodes.number.length ? nodes.number[name] : 0);
        }
    }
}
