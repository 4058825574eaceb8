/**
 * A house of Scheme (R7RS): texts are fed to its tape, evaluated, and what they answer is told as text.
 *
 * All that Scheme makes lives in the words of one Room that is made once: nothing is thrown away until the house is
 * FULL, and then the room is put back to what it was when the house was new.
 */
public final class SchemeHouse {
    public static final int NONE = -1;

    private static final int TAPE = 6000;
    private static final int FULL = 200000;

    private final byte[] tape = new byte[TAPE];
    private int taped;
    private int used;
    private int fulls;
    private final Room room;
    private final Reader reader;
    private final Scribe scribe;
    private final Tables tables;
    private final Machine machine;

    public SchemeHouse() {
        room = new Room();
        Bigs bigs = new Bigs();
        Numbers numbers = new Numbers(room, bigs);
        Numerals numerals = new Numerals(room, bigs, numbers);
        reader = new Reader(room, numerals);
        scribe = new Scribe(room, numerals);
        tables = new Tables(room);
        Expander expander = new Expander(room, tables, new Rules(room, tables));
        machine = new Machine(expander, new Procedures(room, numbers, numerals, scribe, reader));
        machine.found();
        byte[] text = new byte[PRELUDE.length()];
        for (int i = 0; i < text.length; i++) text[i] = (byte) PRELUDE.charAt(i);
        machine.begin(text, text.length);
        machine.run();
        machine.keep();
        machine.clear();
    }

    public boolean feed(int a, int b, int c, int d, int e) {
        if (taped > TAPE - 20) return false;
        put(a);
        put(b);
        put(c);
        put(d);
        put(e);
        return true;
    }

    private void put(int four) {
        for (int shift = 24; shift >= 0; shift -= 8) {
            if (taped >= 0 && taped < TAPE) {
                tape[taped] = (byte) (four >> shift);
                taped++;
            }
        }
    }

    public boolean end(int n) {
        if (n < 0 || n > taped) return false;
        taped = n;
        return true;
    }

    public int input() {
        int size = taped;
        reader.takeInput(tape, size);
        taped = 0;
        return size;
    }

    public int evaluate() {
        machine.begin(tape, taped);
        taped = 0;
        for (int n = 0; n < FULL && machine.isAtWork(); n++) {
            try {
                machine.run();
            } catch (IllegalArgumentException wrong) {
                machine.stumble();
            } catch (IllegalStateException limit) {
                machine.limit();
            }
        }
        used += room.work;
        if (used > FULL) renew();
        return machine.ended;
    }

    /** FULL: the house is as new, but for what the latest calls told. */
    private void renew() {
        room.renew();
        tables.renew();
        used = 0;
        fulls++;
    }

    public int told(int what, int i) {
        if (what == 0) return scribe.output(i);
        if (what == 1) return scribe.result(i);
        return NONE;
    }

    public int sum(int what) {
        int size = size(what);
        if (size < 0) return NONE;
        int sum = 0;
        for (int i = 0; i < size; i++) sum = 31 * sum + told(what, i);
        return sum;
    }

    private int size(int what) {
        if (what == 0) return scribe.outputSize;
        if (what == 1) return scribe.resultSize;
        return NONE;
    }

    public int count(int what) {
        switch (what) {
            case 0:
            case 1: return size(what);
            case 2: return room.work;
            case 3: return used;
            case 4: return fulls;
            case 5: return taped;
            case 6: return reader.inputLeft();
            case 7: return tables.libraries;
            case 8: return machine.done;
            default: return NONE;
        }
    }

    /**
     * The PROCEDURES: the name; the operands, a letter each (x anything, n number, i integer, k exact one from 0 on,
     * p pair, l list, s string, c character, v vector, b bytevector, y symbol, f procedure, e ERROR OBJECT, t RECORD
     * TYPE, m parameter; behind [ what may lack, * the one ahead any number of times); and the group they are done in.
     */
    private enum Proc {
        EQV("eqv?", "xx", 0), EQ("eq?", "xx", 0), EQUAL("equal?", "xx", 0), NOT("not", "x", 0),
        IS_BOOLEAN("boolean?", "x", 0), SAME_BOOLEANS("boolean=?", "xx*", 0), IS_SYMBOL("symbol?", "x", 0),
        SAME_SYMBOLS("symbol=?", "yy*", 0), SYMBOL_STRING("symbol->string", "y", 0),
        STRING_SYMBOL("string->symbol", "s", 0), IS_PROCEDURE("procedure?", "x", 0), IS_ERROR("error-object?", "x", 0),
        ERROR_MESSAGE("error-object-message", "e", 0), ERROR_IRRITANTS("error-object-irritants", "e", 0),
        EOF_OBJECT("eof-object", "", 0), IS_EOF("eof-object?", "x", 0),

        IS_NUMBER("number?", "x", 1), IS_COMPLEX("complex?", "x", 1), IS_REAL("real?", "x", 1),
        IS_RATIONAL("rational?", "x", 1), IS_INTEGER("integer?", "x", 1), IS_EXACT_INTEGER("exact-integer?", "x", 1),
        IS_EXACT("exact?", "n", 1), IS_INEXACT("inexact?", "n", 1), IS_FINITE("finite?", "n", 1),
        IS_INFINITE("infinite?", "n", 1), IS_NAN("nan?", "n", 1), EQUALS("=", "nn*", 1), LESS("<", "nn*", 1),
        MORE(">", "nn*", 1), NOT_MORE("<=", "nn*", 1), NOT_LESS(">=", "nn*", 1), IS_ZERO("zero?", "n", 1),
        IS_POSITIVE("positive?", "n", 1), IS_NEGATIVE("negative?", "n", 1), IS_ODD("odd?", "i", 1),
        IS_EVEN("even?", "i", 1),

        MAX("max", "nn*", 2), MIN("min", "nn*", 2), PLUS("+", "n*", 2), TIMES("*", "n*", 2), MINUS("-", "nn*", 2),
        DIVIDE("/", "nn*", 2), ABS("abs", "n", 2), SQUARE("square", "n", 2), GCD("gcd", "i*", 2), LCM("lcm", "i*", 2),
        EXPT("expt", "ni", 2), SQRT("sqrt", "n", 2), EXACT_SQRT("exact-integer-sqrt", "k", 2),
        QUOTIENT("quotient", "ii", 2), REMAINDER("remainder", "ii", 2), MODULO("modulo", "ii", 2),
        FLOOR_QUOTIENT("floor-quotient", "ii", 2), FLOOR_REMAINDER("floor-remainder", "ii", 2),
        TRUNCATE_QUOTIENT("truncate-quotient", "ii", 2), TRUNCATE_REMAINDER("truncate-remainder", "ii", 2),
        FLOOR_BOTH("floor/", "ii", 2), TRUNCATE_BOTH("truncate/", "ii", 2),

        NUMERATOR("numerator", "n", 3), DENOMINATOR("denominator", "n", 3), FLOOR("floor", "n", 3),
        CEILING("ceiling", "n", 3), TRUNCATE("truncate", "n", 3), ROUND("round", "n", 3), EXACT("exact", "n", 3),
        INEXACT("inexact", "n", 3), NUMBER_STRING("number->string", "n[k", 4),
        STRING_NUMBER("string->number", "s[k", 4),

        CAR("car", "p", 5), CDR("cdr", "p", 5), CAAR("caar", "p", 5), CADR("cadr", "p", 5), CDAR("cdar", "p", 5),
        CDDR("cddr", "p", 5), CAAAR("caaar", "p", 5), CAADR("caadr", "p", 5), CADAR("cadar", "p", 5),
        CADDR("caddr", "p", 5), CDAAR("cdaar", "p", 5), CDADR("cdadr", "p", 5), CDDAR("cddar", "p", 5),
        CDDDR("cdddr", "p", 5), CAAAAR("caaaar", "p", 5), CAAADR("caaadr", "p", 5), CAADAR("caadar", "p", 5),
        CAADDR("caaddr", "p", 5), CADAAR("cadaar", "p", 5), CADADR("cadadr", "p", 5), CADDAR("caddar", "p", 5),
        CADDDR("cadddr", "p", 5), CDAAAR("cdaaar", "p", 5), CDAADR("cdaadr", "p", 5), CDADAR("cdadar", "p", 5),
        CDADDR("cdaddr", "p", 5), CDDAAR("cddaar", "p", 5), CDDADR("cddadr", "p", 5), CDDDAR("cdddar", "p", 5),
        CDDDDR("cddddr", "p", 5),

        IS_PAIR("pair?", "x", 6), IS_NULL("null?", "x", 6), IS_LIST("list?", "x", 6), CONS("cons", "xx", 6),
        SET_CAR("set-car!", "px", 6), SET_CDR("set-cdr!", "px", 6), MAKE_LIST("make-list", "k[x", 6),
        LIST("list", "x*", 6), LENGTH("length", "l", 6), APPEND("append", "xx*", 6), REVERSE("reverse", "l", 6),
        LIST_TAIL("list-tail", "xk", 6), LIST_REF("list-ref", "xk", 6), LIST_SET("list-set!", "xkx", 6),
        MEMQ("memq", "xl", 6), MEMV("memv", "xl", 6), ASSQ("assq", "xl", 6), ASSV("assv", "xl", 6),
        LIST_COPY("list-copy", "x", 6), ALL_PAIRS("%all-pairs?", "l", 6), CARS("%cars", "l", 6),
        CDRS("%cdrs", "l", 6),

        IS_CHAR("char?", "x", 7), CHAR_SAME("char=?", "cc*", 7), CHAR_LESS("char<?", "cc*", 7),
        CHAR_MORE("char>?", "cc*", 7), CHAR_NOT_MORE("char<=?", "cc*", 7), CHAR_NOT_LESS("char>=?", "cc*", 7),
        IS_ALPHABETIC("char-alphabetic?", "c", 7), IS_NUMERIC("char-numeric?", "c", 7),
        IS_WHITE("char-whitespace?", "c", 7), IS_UPPER("char-upper-case?", "c", 7),
        IS_LOWER("char-lower-case?", "c", 7), DIGIT_VALUE("digit-value", "c", 7), CHAR_INTEGER("char->integer", "c", 7),
        INTEGER_CHAR("integer->char", "k", 7), CHAR_UP("char-upcase", "c", 7), CHAR_DOWN("char-downcase", "c", 7),
        STRING_SAME("string=?", "ss*", 7), STRING_LESS("string<?", "ss*", 7), STRING_MORE("string>?", "ss*", 7),
        STRING_NOT_MORE("string<=?", "ss*", 7), STRING_NOT_LESS("string>=?", "ss*", 7),
        STRING_SAME_CASELESS("string-ci=?", "ss*", 7),

        IS_STRING("string?", "x", 8), MAKE_STRING("make-string", "k[c", 8), STRING("string", "c*", 8),
        STRING_LENGTH("string-length", "s", 8), STRING_REF("string-ref", "sk", 8), STRING_SET("string-set!", "skc", 8),
        SUBSTRING("substring", "skk", 8), STRING_APPEND("string-append", "s*", 8),
        STRING_LIST("string->list", "s[kk", 8), STRING_COPY("string-copy", "s[kk", 8),
        STRING_VECTOR("string->vector", "s[kk", 8), STRING_BYTES("string->utf8", "s[kk", 8),
        LIST_STRING("list->string", "l", 8), STRING_COPY_TO("string-copy!", "sks[kk", 8),
        STRING_FILL("string-fill!", "sc[kk", 8), STRING_UP("string-upcase", "s", 8),
        STRING_DOWN("string-downcase", "s", 8),

        IS_VECTOR("vector?", "x", 9), MAKE_VECTOR("make-vector", "k[x", 9), VECTOR("vector", "x*", 9),
        VECTOR_LENGTH("vector-length", "v", 9), VECTOR_REF("vector-ref", "vk", 9), VECTOR_SET("vector-set!", "vkx", 9),
        VECTOR_LIST("vector->list", "v[kk", 9), VECTOR_COPY("vector-copy", "v[kk", 9),
        VECTOR_STRING("vector->string", "v[kk", 9), LIST_VECTOR("list->vector", "l", 9),
        VECTOR_COPY_TO("vector-copy!", "vkv[kk", 9), VECTOR_APPEND("vector-append", "v*", 9),
        VECTOR_FILL("vector-fill!", "vx[kk", 9),

        IS_BYTES("bytevector?", "x", 10), MAKE_BYTES("make-bytevector", "k[k", 10), BYTES("bytevector", "k*", 10),
        BYTES_LENGTH("bytevector-length", "b", 10), BYTES_REF("bytevector-u8-ref", "bk", 10),
        BYTES_SET("bytevector-u8-set!", "bkk", 10), BYTES_COPY("bytevector-copy", "b[kk", 10),
        BYTES_COPY_TO("bytevector-copy!", "bkb[kk", 10), BYTES_APPEND("bytevector-append", "b*", 10),
        BYTES_STRING("utf8->string", "b[kk", 10),

        DISPLAY("display", "x", 13), WRITE("write", "x", 13), NEWLINE("newline", "", 11),
        WRITE_CHAR("write-char", "c", 11), WRITE_STRING("write-string", "s[kk", 11), READ_CHAR("read-char", "", 11),
        PEEK_CHAR("peek-char", "", 11), READ_LINE("read-line", "", 11), READ_STRING("read-string", "k", 11),
        READ("read", "", 13),

        CASE_LAMBDA("%case-lambda", "f*", 12), MAKE_ERROR("%make-error", "xl", 12),
        MAKE_PARAMETER("%make-parameter", "xf", 12), CONVERTER("%converter", "m", 12), TYPE("%type", "yl", 12),
        CONSTRUCTOR("%constructor", "tl", 12), PREDICATE("%predicate", "t", 12), ACCESSOR("%accessor", "ty", 12),
        MODIFIER("%modifier", "ty", 12),

        HANDLERS("%handlers", "", 13), PARAMETERS("%parameters", "", 13), APPLY("apply", "fxx*", 13),
        VALUES("values", "x*", 13), CALL_WITH_VALUES("call-with-values", "ff", 13), WITH("%with", "llf", 13),
        CALL_CC("%call/cc", "f", 13), STOP("%stop", "x", 13);

        final String text;
        final String operands;
        final int group;

        Proc(String text, String operands, int group) {
            this.text = text;
            this.operands = operands;
            this.group = group;
        }
    }

    private static final Proc[] PROCEDURES = Proc.values();

    /** What all others share: the words that Scheme's objects are made of, WORK, and the condition at hand. */
    private static final class Room {
        static final int SIZE = 1 << 21;
        static final int AT_FIRST = 1 << 17;
        static final int BUCKETS = 1024;
        static final int CALLS = 1 << 16;
        static final int SCRATCH = 1 << 18;
        static final int MOST = 40000;
        static final int FRAMES = 1 << 18;
        static final int FIRST_FRAME = 8;

        // a value: an odd number is an exact integer of 28 bits, the others have a kind and an index (or a number)
        static final int IMMEDIATE = 0, PAIR = 1, STRING = 2, VECTOR = 3, BYTES = 4, BIG = 5, RATIO = 6, FLO = 7;
        static final int SYMBOL = 8, ALIAS = 9, PROC = 10, RECORD = 11, TYPE = 12, VALUES = 13, ERROR = 14;
        static final int MACRO = 15, PLACE = 16, SLOT = 17, FIX = 32;

        static final int NOTHING = 0, NIL = 64, FALSE = 128, TRUE = 192, UNSPECIFIED = 256, END = 320;
        static final int UNASSIGNED = 384, TOO_BIG = 448, FIRST_CHAR = 256 << 6, FIRST_CORE = 512 << 6;

        // marks of IDENTIFIERS (an ALIAS is: of what, the MACRO's environment, its SYMBOL, marks; a SYMBOL: the next in
        // its bucket, bindings, how many signs, marks, signs): the number of a variable, an ALIAS, a MACRO, whether any
        // scope binds it
        static final int VARIABLE = 3, ALIASED = 4, LITERAL = 5, SCOPED = 6, SIGNS = 7;

        // the first word of a PROC
        static final int PRIMITIVE = 0, CLOSURE = 1, CONTINUATION = 2, PARAMETER = 3, CASES = 4, MAKER = 5, ASKER = 6;
        static final int GETTER = 7, SETTER = 8;

        // conditions
        static final int IS_TYPE = 1, IS_RANGE = 2, IS_ARITY = 3, IS_CALL = 4, IS_UNBOUND = 5, IS_UNASSIGNED = 6;
        static final int IS_ZERO = 7, IS_LIMIT = 8, IS_READ = 9, IS_DEAD = 10, IS_SYNTAX = 11;

        int[] words = new int[AT_FIRST];
        final int[] scratch = new int[SCRATCH];
        final int[] args = new int[CALLS];
        final int[] names = new int[512];
        final int[] sign = new int[64];
        final int[] frames = new int[FRAMES];
        int frame;
        int frameTop = FIRST_FRAME;
        int frozen = FIRST_FRAME;
        int top = BUCKETS;
        int work;
        int most = SIZE;
        int fresh;
        int called;
        int fault;
        int irritants;
        int culprit;
        int handlers = NIL;
        int parameters = NIL;
        private int[] first = new int[0];

        int at(int i) {
            return words[i & (words.length - 1)];
        }

        void put(int i, int v) {
            words[i & (words.length - 1)] = v;
        }

        int arg(int i) {
            return args[i & (CALLS - 1)];
        }

        void setArg(int i, int v) {
            args[i & (CALLS - 1)] = v;
        }

        static int kind(int v) {
            return (v & 1) != 0 ? FIX : (v >> 1) & 31;
        }

        static boolean isPair(int v) {
            return (v & 63) == PAIR << 1;
        }

        static int value(int kind, int index) {
            return index << 6 | kind << 1;
        }

        static int index(int v) {
            return v >>> 6;
        }

        static int fix(int n) {
            return n << 1 | 1;
        }

        static int truth(boolean b) {
            return b ? TRUE : FALSE;
        }

        static int character(int code) {
            return FIRST_CHAR + (code << 6);
        }

        static boolean isChar(int v) {
            return (v & 63) == 0 && v >= FIRST_CHAR && v < FIRST_CHAR + (128 << 6);
        }

        static int code(int character) {
            return (character - FIRST_CHAR) >> 6;
        }

        static boolean isCore(int v) {
            return (v & 63) == 0 && v >= FIRST_CORE;
        }

        static boolean isIdentifier(int v) {
            return (v & 63) == SYMBOL << 1 || (v & 63) == ALIAS << 1;
        }

        /** The house is made: what is there now is what it will be again when it is FULL. */
        void keep() {
            first = new int[top];
            System.arraycopy(words, 0, first, 0, top);
            most = MOST;
        }

        void renew() {
            top = first.length;
            System.arraycopy(first, 0, words, 0, top);
        }

        /** LIMIT, if there is more than so much WORK. */
        void spend(int units) {
            if (units > most || work + units > most) {
                work = most + 1;
                throw new IllegalStateException();
            }
            work += units;
        }

        /** The form, IDENTIFIER or use that is a "syntax" condition. */
        void wrong(int form) {
            culprit = form;
            throw new IllegalArgumentException();
        }

        /** A condition with the name of the procedure at work. */
        int failNamed(int condition) {
            spend(1);
            int i = make(2);
            put(i, names[called & 511]);
            put(i + 1, NIL);
            fault = condition;
            irritants = value(PAIR, i);
            return NOTHING;
        }

        /** A condition with the name of the procedure at work, and an operand. */
        int failWith(int condition, int operand) {
            spend(2);
            int i = make(4);
            put(i, names[called & 511]);
            put(i + 1, value(PAIR, i + 2));
            put(i + 2, operand);
            put(i + 3, NIL);
            fault = condition;
            irritants = value(PAIR, i);
            return NOTHING;
        }

        /** A condition takes the place of the answer. */
        int fail(int condition, int irritants) {
            fault = condition;
            this.irritants = irritants;
            return NOTHING;
        }

        /** So many words; WORK bounds what is made, so that the room is never short of them. */
        int make(int n) {
            if (n < 0 || n > SIZE - top) {
                work = most + 1;
                throw new IllegalStateException();
            }
            int start = top;
            top += n;
            if (top > words.length) {
                int size = words.length;
                while (size < top && size < SIZE) size *= 2;
                int[] more = new int[size];
                System.arraycopy(words, 0, more, 0, words.length);
                words = more;
            }
            return start;
        }

        int cons(int car, int cdr) {
            int i = make(2);
            put(i, car);
            put(i + 1, cdr);
            return value(PAIR, i);
        }

        int pair(int car, int cdr) {
            spend(1);
            int i = make(2);
            put(i, car);
            put(i + 1, cdr);
            return value(PAIR, i);
        }

        int car(int v) {
            return words[v >>> 6 & (words.length - 1)];
        }

        int cdr(int v) {
            return words[(v >>> 6) + 1 & (words.length - 1)];
        }

        /** A record of two to four words that is no object of Scheme's: its index. */
        int record(int n, int a, int b, int c, int d) {
            int i = make(n);
            put(i, a);
            put(i + 1, b);
            if (n > 2) put(i + 2, c);
            if (n > 3) put(i + 3, d);
            return i;
        }

        /** How many elements a string, vector, bytevector has. */
        int size(int v) {
            return words[v >>> 6 & (words.length - 1)];
        }

        int item(int v, int i) {
            return words[(v >>> 6) + 1 + i & (words.length - 1)];
        }

        void setItem(int v, int i, int to) {
            words[(v >>> 6) + 1 + i & (words.length - 1)] = to;
        }

        int element(int vector, int i) {
            int at = words[(vector >>> 6) + 1 & (words.length - 1)];
            return words[at + i & (words.length - 1)];
        }

        void setElement(int vector, int i, int to) {
            int at = words[(vector >>> 6) + 1 & (words.length - 1)];
            words[at + i & (words.length - 1)] = to;
        }

        /** A string or bytevector whose items are still to be put. */
        int row(int kind, int n) {
            spend(1 + n);
            int i = make(1 + n);
            put(i, n);
            return value(kind, i);
        }

        int vector(int n) {
            spend(1 + n);
            int i = make(2 + n);
            put(i, n);
            put(i + 1, i + 2);
            return value(VECTOR, i);
        }

        int procedure(int kind, int a, int b, int c) {
            return value(PROC, record(4, kind, a, b, c));
        }

        int newString(String text) {
            int s = row(STRING, text.length());
            for (int i = 0; i < text.length(); i++) setItem(s, i, text.charAt(i));
            return s;
        }

        boolean isList(int v) {
            int mark = v;
            for (int n = 0; n < SIZE; n++) {
                if (v == NIL) return true;
                if (kind(v) != PAIR) return false;
                v = cdr(v);
                if (v == mark) return false;
                if ((n & (n + 1)) == 0) mark = v;
            }
            return false;
        }

        /** The number of pairs up to something else, -1 of a ring. */
        int pairs(int v) {
            int mark = v;
            for (int n = 0; n < SIZE; n++) {
                if (kind(v) != PAIR) return n;
                v = cdr(v);
                if (v == mark) return -1;
                if ((n & (n + 1)) == 0) mark = v;
            }
            return -1;
        }

        // what is left to do: frames (what to do, the next frame, four words), and values that wait (value, the one
        // before). Those below frozen belong to a CONTINUATION and stay; what is above the newest in use is free.

        int frameWord(int i) {
            return frames[i & (FRAMES - 1)];
        }

        void pushFrame(int sort, int a, int b, int c, int d) {
            int i = frameTop;
            if (i > FRAMES - 16) {
                work = most + 1;
                throw new IllegalStateException();
            }
            frames[i & (FRAMES - 1)] = sort;
            frames[(i + 1) & (FRAMES - 1)] = frame;
            frames[(i + 2) & (FRAMES - 1)] = a;
            frames[(i + 3) & (FRAMES - 1)] = b;
            frames[(i + 4) & (FRAMES - 1)] = c;
            frames[(i + 5) & (FRAMES - 1)] = d;
            frame = i;
            frameTop = i + 6;
        }

        /** The newest frame is gone from; its words can still be looked at. */
        int popFrame() {
            int i = frame;
            frame = frames[(i + 1) & (FRAMES - 1)];
            frameTop = Math.max(frozen, i);
            return i;
        }

        int pushValue(int v, int before) {
            int i = frameTop;
            if (i > FRAMES - 16) {
                work = most + 1;
                throw new IllegalStateException();
            }
            frames[i & (FRAMES - 1)] = v;
            frames[(i + 1) & (FRAMES - 1)] = before;
            frameTop = i + 2;
            return i;
        }

        /** eqv?: the same object, or the same number. */
        boolean eqv(int a, int b) {
            if (a == b) return true;
            int kind = kind(a);
            if (kind != kind(b)) return false;
            int i = index(a);
            int j = index(b);
            if (kind == BIG) return sameWords(i, j);
            if (kind == FLO) return at(i) == at(j) && at(i + 1) == at(j + 1);
            return kind == RATIO && samePart(at(i), at(j)) && samePart(at(i + 1), at(j + 1));
        }

        private boolean samePart(int a, int b) {
            return a == b || kind(a) == BIG && kind(b) == BIG && sameWords(index(a), index(b));
        }

        /** The first word tells how many there are behind it. */
        boolean sameWords(int i, int j) {
            int n = Math.abs(words[i & (words.length - 1)]);
            for (int k = 0; k <= n; k++) {
                if (words[i + k & (words.length - 1)] != words[j + k & (words.length - 1)]) return false;
            }
            return true;
        }

        /** The SYMBOL of an ALIAS; others are themselves. */
        int symbolOf(int identifier) {
            return (identifier & 63) == ALIAS << 1 ? words[(identifier >>> 6) + 2 & (words.length - 1)] : identifier;
        }

        int symbolSize(int symbol) {
            return words[(symbol >>> 6) + 2 & (words.length - 1)];
        }

        int symbolSign(int symbol, int i) {
            return words[(symbol >>> 6) + SIGNS + i & (words.length - 1)];
        }

        /** Whether v is an IDENTIFIER whose SYMBOL has this name. */
        boolean isNamed(int v, String name) {
            if (!isIdentifier(v)) return false;
            int symbol = symbolOf(v);
            if (symbolSize(symbol) != name.length()) return false;
            for (int i = 0; i < name.length(); i++) if (symbolSign(symbol, i) != name.charAt(i)) return false;
            return true;
        }

        /** The SYMBOL of the first n signs; fresh tells what making it is in WORK (0 if it was there). */
        int intern(int n) {
            int hash = n;
            for (int i = 0; i < n; i++) hash = hash * 31 + sign[i & 63];
            int bucket = (hash ^ hash >>> 10 ^ hash >>> 20) & (BUCKETS - 1);
            fresh = 0;
            int i = words[bucket];
            for (int count = 0; i != 0 && count < SIZE; count++) {
                if (hasSigns(i, n)) return value(SYMBOL, i);
                i = at(i);
            }
            i = make(SIGNS + n);
            put(i, words[bucket]);
            put(i + 1, 0);
            put(i + 2, n);
            put(i + VARIABLE, 0);
            put(i + ALIASED, 0);
            put(i + LITERAL, 0);
            put(i + SCOPED, 0);
            for (int j = 0; j < n; j++) put(i + SIGNS + j, sign[j & 63]);
            words[bucket] = i;
            fresh = 1 + n;
            return value(SYMBOL, i);
        }

        private boolean hasSigns(int symbol, int n) {
            if (words[symbol + 2 & (words.length - 1)] != n) return false;
            int at = symbol + SIGNS;
            for (int j = 0; j < n; j++) if (words[at + j & (words.length - 1)] != sign[j & 63]) return false;
            return true;
        }

        int symbol(String name) {
            int n = Math.min(name.length(), 64);
            for (int i = 0; i < n; i++) sign[i & 63] = name.charAt(i);
            return intern(n);
        }

        /** All that was made from this word on is no more: SYMBOLS leave their chains, which have the newest first. */
        void forget(int mark) {
            for (int bucket = 0; bucket < BUCKETS; bucket++) {
                int i = words[bucket];
                for (int n = 0; i >= mark && n < SIZE; n++) i = at(i);
                words[bucket] = i;
            }
            top = mark;
        }
    }

    /** Registers of numbers from 0 on, in limbs of 30 bits. Registers 10 to 15 are this class's own. */
    private static final class Bigs {
        static final int LIMBS = 512;
        static final int INDEX = LIMBS - 1;
        static final int BITS = 30;
        static final int BASE = 1 << BITS;
        static final int LOW = BASE - 1;

        private final int[][] limbs = new int[16][LIMBS];
        private final int[] sizes = new int[16];

        int size(int a) {
            return sizes[a & 15];
        }

        int limb(int a, int i) {
            return i >= 0 && i < sizes[a & 15] ? limbs[a & 15][i & INDEX] : 0;
        }

        /** The register has n limbs at most: how many it really has is looked at. */
        private void trim(int a, int n) {
            int[] x = limbs[a & 15];
            int size = Math.min(n, LIMBS);
            while (size > 0 && x[(size - 1) & INDEX] == 0) size--;
            sizes[a & 15] = size;
        }

        boolean isZero(int a) {
            return sizes[a & 15] == 0;
        }

        boolean isOne(int a) {
            return sizes[a & 15] == 1 && limbs[a & 15][0] == 1;
        }

        boolean isOdd(int a) {
            return sizes[a & 15] > 0 && (limbs[a & 15][0] & 1) == 1;
        }

        void set(int a, long v) {
            int[] x = limbs[a & 15];
            x[0] = (int) (v & LOW);
            x[1] = (int) (v >>> 30 & LOW);
            x[2] = (int) (v >>> 60);
            sizes[a & 15] = x[2] != 0 ? 3 : x[1] != 0 ? 2 : x[0] != 0 ? 1 : 0;
        }

        /** The lowest 60 bits. */
        long low(int a) {
            int[] x = limbs[a & 15];
            int n = sizes[a & 15];
            return (n > 1 ? (long) x[1] << 30 : 0) | (n > 0 ? x[0] : 0);
        }

        /** The register gets n limbs (the highest is not 0) that stand in words from i on. */
        void load(int a, int[] words, int i, int n) {
            if (words.length == 0) return;
            int[] x = limbs[a & 15];
            int size = Math.min(n, LIMBS);
            for (int j = 0; j < size; j++) x[j & INDEX] = words[i + j & (words.length - 1)];
            sizes[a & 15] = size;
        }

        void copy(int to, int a) {
            int size = Math.min(LIMBS, sizes[a & 15]);
            System.arraycopy(limbs[a & 15], 0, limbs[to & 15], 0, size);
            sizes[to & 15] = size;
        }

        int compare(int a, int b) {
            int n = sizes[a & 15];
            if (n != sizes[b & 15]) return n < sizes[b & 15] ? -1 : 1;
            int[] x = limbs[a & 15];
            int[] y = limbs[b & 15];
            for (int i = n - 1; i >= 0; i--) {
                int d = x[i & INDEX] - y[i & INDEX];
                if (d != 0) return d < 0 ? -1 : 1;
            }
            return 0;
        }

        void add(int to, int a, int b) {
            int[] x = limbs[a & 15];
            int[] y = limbs[b & 15];
            int[] z = limbs[to & 15];
            int sizeA = sizes[a & 15];
            int sizeB = sizes[b & 15];
            int n = Math.min(LIMBS - 1, Math.max(sizeA, sizeB));
            int carry = 0;
            for (int i = 0; i < n; i++) {
                long sum = (i < sizeA ? (long) x[i & INDEX] : 0) + (i < sizeB ? y[i & INDEX] : 0) + carry;
                z[i & INDEX] = (int) (sum & LOW);
                carry = (int) (sum >> BITS);
            }
            z[n & INDEX] = carry;
            sizes[to & 15] = carry == 0 ? n : n + 1;
        }

        /** a less b, which is not greater. */
        void subtract(int to, int a, int b) {
            int[] x = limbs[a & 15];
            int[] y = limbs[b & 15];
            int[] z = limbs[to & 15];
            int n = sizes[a & 15];
            int sizeB = sizes[b & 15];
            int borrow = 0;
            for (int i = 0; i < n; i++) {
                int d = x[i & INDEX] - (i < sizeB ? y[i & INDEX] : 0) - borrow;
                borrow = d < 0 ? 1 : 0;
                z[i & INDEX] = d & LOW;
            }
            while (n > 0 && z[(n - 1) & INDEX] == 0) n--;
            sizes[to & 15] = n;
        }

        /** to is neither a nor b. */
        void multiply(int to, int a, int b) {
            int[] x = limbs[a & 15];
            int[] y = limbs[b & 15];
            int[] z = limbs[to & 15];
            int n = sizes[a & 15];
            int m = sizes[b & 15];
            for (int i = 0; i < n + m; i++) z[i & INDEX] = 0;
            for (int i = 0; i < n; i++) {
                long carry = 0;
                for (int j = 0; j < m; j++) {
                    long t = (long) x[i & INDEX] * y[j & INDEX] + z[(i + j) & INDEX] + carry;
                    z[(i + j) & INDEX] = (int) (t & LOW);
                    carry = t >> BITS;
                }
                z[(i + m) & INDEX] = (int) carry;
            }
            int size = n == 0 || m == 0 ? 0 : n + m;
            if (size > 0 && z[(size - 1) & INDEX] == 0) size--;
            sizes[to & 15] = size;
        }

        /** The register times by (2 at least), and plus. */
        void scale(int a, int by, int plus) {
            int[] x = limbs[a & 15];
            int n = Math.min(sizes[a & 15], LIMBS - 1);
            long carry = plus;
            for (int i = 0; i < n; i++) {
                long t = (long) x[i & INDEX] * by + carry;
                x[i & INDEX] = (int) (t & LOW);
                carry = t >> BITS;
            }
            x[n & INDEX] = (int) carry;
            sizes[a & 15] = carry == 0 ? n : n + 1;
        }

        /** The register by a small number; what is left is answered. */
        int cut(int a, int by) {
            if (by <= 0) return 0;
            int[] x = limbs[a & 15];
            int n = sizes[a & 15];
            long rest = 0;
            for (int i = n - 1; i >= 0; i--) {
                long t = rest << BITS | x[i & INDEX];
                x[i & INDEX] = (int) (t / by);
                rest = t % by;
            }
            if (n > 0 && x[(n - 1) & INDEX] == 0) sizes[a & 15] = n - 1;
            return (int) rest;
        }

        void left(int to, int a, int bits) {
            int[] x = limbs[a & 15];
            int[] z = limbs[to & 15];
            int words = bits / BITS;
            int shift = bits % BITS;
            int n = sizes[a & 15];
            int end = Math.min(n + words, LIMBS - 1);
            for (int i = end - words; i >= 0; i--) {
                long both = (i < n ? (long) x[i & INDEX] << BITS : 0) | (i > 0 ? x[(i - 1) & INDEX] : 0);
                z[(i + words) & INDEX] = (int) (both >> (BITS - shift) & LOW);
            }
            for (int i = 0; i < words && i < LIMBS; i++) z[i & INDEX] = 0;
            int size = end + 1;
            while (size > 0 && z[(size - 1) & INDEX] == 0) size--;
            sizes[to & 15] = size;
        }

        void right(int to, int a, int bits) {
            int[] x = limbs[a & 15];
            int[] z = limbs[to & 15];
            int words = bits / BITS;
            int shift = bits % BITS;
            int n = sizes[a & 15];
            int size = Math.max(0, n - words);
            for (int i = 0; i < size; i++) {
                long above = i + words + 1 < n ? x[(i + words + 1) & INDEX] : 0;
                z[i & INDEX] = (int) ((above << BITS | x[(i + words) & INDEX]) >> shift & LOW);
            }
            while (size > 0 && z[(size - 1) & INDEX] == 0) size--;
            sizes[to & 15] = size;
        }

        int bits(int a) {
            int n = sizes[a & 15];
            return n == 0 ? 0 : n * BITS + 2 - Integer.numberOfLeadingZeros(limbs[a & 15][(n - 1) & INDEX]);
        }

        boolean bit(int a, int i) {
            return i >= 0 && i / BITS < sizes[a & 15] && (limbs[a & 15][(i / BITS) & INDEX] >> i % BITS & 1) == 1;
        }

        /** Whether one of the lowest n bits is set. */
        boolean below(int a, int n) {
            int[] x = limbs[a & 15];
            int size = sizes[a & 15];
            int words = n / BITS;
            for (int i = 0; i < words && i < size; i++) if (x[i & INDEX] != 0) return true;
            return n > 0 && words < size && (x[words & INDEX] & ((1 << n % BITS) - 1)) != 0;
        }

        /** Register q is a by b (not 0) without fraction, r what is left; q and r are neither a nor b. */
        void divide(int q, int r, int a, int b) {
            int n = sizes[b & 15];
            if (n == 0 || compare(a, b) < 0) {
                copy(r, a);
                sizes[q & 15] = 0;
                return;
            }
            if (n == 1) {
                copy(q, a);
                set(r, cut(q, limbs[b & 15][0]));
                return;
            }
            int shift = Integer.numberOfLeadingZeros(limbs[b & 15][(n - 1) & INDEX]) - 2;
            left(15, b, shift);
            left(r, a, shift);
            int size = sizes[r & 15];
            limbs[r & 15][size & INDEX] = 0;
            for (int j = size - n; j >= 0; j--) limbs[q & 15][j & INDEX] = digit(limbs[r & 15], j, n);
            trim(q, size - n + 1);
            trim(r, n);
            right(r, r, shift);
        }

        /** A limb of a quotient: r from limb j on by register 15 (of n limbs), which is taken from it so often. */
        private int digit(int[] r, int j, int n) {
            int[] by = limbs[15];
            long above = by[(n - 1) & INDEX];
            if (above == 0) return 0;
            long two = (long) r[(j + n) & INDEX] << BITS | r[(j + n - 1) & INDEX];
            long guess = two / above;
            long rest = two % above;
            while (rest < BASE
                && (guess >= BASE || guess * by[(n - 2) & INDEX] > (rest << BITS | r[(j + n - 2) & INDEX]))) {
                guess--;
                rest += above;
            }
            long carry = 0;
            for (int i = 0; i <= n; i++) {
                long t = r[(i + j) & INDEX] - (i < n ? guess * by[i & INDEX] : 0) + carry;
                r[(i + j) & INDEX] = (int) (t & LOW);
                carry = t >> BITS;
            }
            if (carry >= 0) return (int) guess;
            carry = 0;
            for (int i = 0; i <= n; i++) {
                long t = r[(i + j) & INDEX] + (i < n ? by[i & INDEX] : 0) + carry;
                r[(i + j) & INDEX] = (int) (t & LOW);
                carry = t >> BITS;
            }
            return (int) guess - 1;
        }

        void gcd(int to, int a, int b) {
            int x = 12;
            int y = 13;
            int rest = 14;
            copy(x, a);
            copy(y, b);
            for (int n = 0; n < LIMBS * BITS * 2 && sizes[y & 15] != 0; n++) {
                if (leap(x, y)) continue;
                divide(10, rest, x, y);
                int free = x;
                x = y;
                y = rest;
                rest = free;
            }
            copy(to, x);
        }

        /**
         * Some of Euclid's steps at once: they are reckoned with the highest 60 bits alone, as long as what is below them
         * can't change a quotient. False if there is none: a whole division of big registers is dear.
         */
        private boolean leap(int x, int y) {
            if (bits(y) > bits(x)) return false;
            int cut = Math.max(0, bits(x) - 60);
            long u = highest(x, cut);
            long v = highest(y, cut);
            long a = 1;
            long b = 0;
            long c = 0;
            long d = 1;
            for (int n = 0; n < 64 && v + c > 0 && v + d > 0; n++) {
                long quotient = (u + a) / (v + c);
                if (quotient >= BASE || quotient != (u + b) / (v + d)) break;
                long nextC = a - quotient * c;
                long nextD = b - quotient * d;
                if (Math.abs(nextC) >= BASE || Math.abs(nextD) >= BASE) break;
                long rest = u - quotient * v;
                u = v;
                v = rest;
                a = c;
                b = d;
                c = nextC;
                d = nextD;
            }
            if (b == 0) return false;
            combine(x, y, a, b, c, d);
            return true;
        }

        /** 60 bits of a register, from the one at cut on. */
        private long highest(int a, int cut) {
            int[] x = limbs[a & 15];
            int n = sizes[a & 15];
            int i = cut / BITS;
            int shift = cut % BITS;
            long low = i < n ? x[i & INDEX] : 0;
            long middle = i + 1 < n ? x[(i + 1) & INDEX] : 0;
            long high = i + 2 < n ? x[(i + 2) & INDEX] : 0;
            return low >> shift | middle << (BITS - shift) | high << (2 * BITS - shift);
        }

        /** x becomes a times x and b times y, y becomes c times x and d times y; neither is below 0 or more than x was. */
        private void combine(int x, int y, long a, long b, long c, long d) {
            int[] s = limbs[x & 15];
            int[] t = limbs[y & 15];
            int n = sizes[x & 15];
            for (int i = sizes[y & 15]; i < n; i++) t[i & INDEX] = 0;
            long sumX = 0;
            long sumY = 0;
            for (int i = 0; i < n; i++) {
                long p = s[i & INDEX];
                long q = t[i & INDEX];
                sumX += a * p + b * q;
                sumY += c * p + d * q;
                s[i & INDEX] = (int) (sumX & LOW);
                t[i & INDEX] = (int) (sumY & LOW);
                sumX >>= BITS;
                sumY >>= BITS;
            }
            int sizeX = n;
            while (sizeX > 0 && s[(sizeX - 1) & INDEX] == 0) sizeX--;
            sizes[x & 15] = sizeX;
            int sizeY = n;
            while (sizeY > 0 && t[(sizeY - 1) & INDEX] == 0) sizeY--;
            sizes[y & 15] = sizeY;
        }

        /** The greatest number whose square is not more. */
        void root(int to, int a) {
            set(10, 1);
            left(12, 10, (bits(a) + 1) / 2);
            for (int n = 0; n < LIMBS * BITS; n++) {
                divide(10, 14, a, 12);
                add(13, 12, 10);
                right(13, 13, 1);
                if (compare(13, 12) >= 0) break;
                copy(12, 13);
            }
            copy(to, 12);
        }

        /** The register times ten, n times. */
        void tens(int a, int n) {
            int left = n;
            for (; left >= 9; left -= 9) scale(a, 1000000000, 0);
            for (; left > 0; left--) scale(a, 10, 0);
        }
    }

    /**
     * Exact integers, fractions and FLONUMS (the 64 bits that IEEE 754 gives them). A number in registers r and r + 1
     * is a fraction in lowest terms, with its sign in minus. Answers that are made anew are counted as WORK here.
     */
    private static final class Numbers {
        static final long NAN = 0x7ff8000000000000L;
        static final long INFINITE = 0x7ff0000000000000L;
        static final long TURN = 0x8000000000000000L;
        static final long SIZE = 0x7fffffffffffffffL;
        static final long ONE = 0x3ff0000000000000L;
        static final long HIDDEN = 1L << 52;
        static final int MOST_BITS = 4000;

        private final Room room;
        private final Bigs bigs;
        private final boolean[] minus = new boolean[16];

        Numbers(Room room, Bigs bigs) {
            this.room = room;
            this.bigs = bigs;
        }

        // what numbers are

        static boolean isNumber(int v) {
            int kind = Room.kind(v);
            return kind == Room.FIX || kind == Room.BIG || kind == Room.RATIO || kind == Room.FLO;
        }

        static boolean isWhole(int v) {
            int kind = Room.kind(v);
            return kind == Room.FIX || kind == Room.BIG;
        }

        static boolean isFinite(long flo) {
            return (flo & INFINITE) != INFINITE;
        }

        static boolean isNan(long flo) {
            return (flo & SIZE) > INFINITE;
        }

        static boolean isZero(long flo) {
            return (flo & SIZE) == 0;
        }

        long flo(int v) {
            int i = Room.index(v);
            return (long) room.at(i) << 32 | room.at(i + 1) & 0xffffffffL;
        }

        /** The FLONUM's size is its mantissa times 2 to its power. */
        static long mantissa(long flo) {
            long m = flo & (HIDDEN - 1);
            return (flo & INFINITE) == 0 ? m : m | HIDDEN;
        }

        static int power(long flo) {
            int e = (int) (flo >>> 52 & 2047);
            return Math.max(e, 1) - 1075;
        }

        private static boolean isIntegral(long flo) {
            if (!isFinite(flo)) return false;
            int power = power(flo);
            long m = mantissa(flo);
            return m == 0 || power >= 0 || Long.numberOfTrailingZeros(m) >= -power;
        }

        boolean isInteger(int v) {
            return isWhole(v) || Room.kind(v) == Room.FLO && isIntegral(flo(v));
        }

        /** -1, 0, 1; a nan counts 0. */
        int signOf(int v) {
            int kind = Room.kind(v);
            if (kind == Room.FLO) {
                long flo = flo(v);
                return isNan(flo) || isZero(flo) ? 0 : flo < 0 ? -1 : 1;
            }
            int whole = kind == Room.RATIO ? room.at(Room.index(v)) : v;
            return Integer.signum(Room.kind(whole) == Room.FIX ? whole >> 1 : room.at(Room.index(whole)));
        }

        /** The units that a number is when it is made. */
        int units(int v) {
            int i = Room.index(v);
            int kind = Room.kind(v);
            if (kind == Room.BIG) return 2 + (bitsOf(v) + 31) / 32;
            if (kind == Room.FLO) return 4;
            if (kind != Room.RATIO) return 0;
            return 2 + (bitsOf(room.at(i)) + 31) / 32 + (bitsOf(room.at(i + 1)) + 31) / 32;
        }

        private int bitsOf(int whole) {
            if (Room.kind(whole) == Room.FIX) return 32 - Integer.numberOfLeadingZeros(Math.abs(whole >> 1));
            int i = Room.index(whole);
            int n = Math.abs(room.at(i));
            return n * Bigs.BITS + 2 - Integer.numberOfLeadingZeros(room.at(i + n));
        }

        private int made(int v) {
            room.spend(units(v));
            return v;
        }

        private int madeFlo(long flo) {
            room.spend(4);
            return newFlo(flo);
        }

        // registers

        void loadWhole(int v, int r) {
            if (Room.kind(v) == Room.FIX) {
                minus[r & 15] = v < 0;
                bigs.set(r, Math.abs(v >> 1));
            } else {
                int i = Room.index(v);
                minus[r & 15] = room.at(i) < 0;
                bigs.load(r, room.words, i + 1, Math.abs(room.at(i)));
            }
        }

        /** Any number that is no inf, nan. */
        private void load(int v, int r) {
            int kind = Room.kind(v);
            if (kind == Room.FLO) {
                loadFlo(flo(v), r);
            } else if (kind == Room.RATIO) {
                loadWhole(room.at(Room.index(v) + 1), r + 1);
                loadWhole(room.at(Room.index(v)), r);
            } else {
                loadWhole(v, r);
                bigs.set(r + 1, 1);
            }
        }

        private void loadFlo(long flo, int r) {
            long m = mantissa(flo);
            int power = power(flo);
            minus[r & 15] = flo < 0 && m != 0;
            bigs.set(r + 1, 1);
            if (power >= 0 || m == 0) {
                bigs.set(r, m);
                bigs.left(r, r, Math.max(0, power));
                return;
            }
            int zeros = Math.min(-power, Long.numberOfTrailingZeros(m));
            bigs.set(r, m >>> zeros);
            bigs.left(r + 1, r + 1, -power - zeros);
        }

        boolean isMinus(int r) {
            return minus[r & 15];
        }

        void setMinus(int r, boolean is) {
            minus[r & 15] = is;
        }

        private int storeWhole(int r, boolean less) {
            int n = bigs.size(r);
            if (bigs.bits(r) <= 28) return Room.fix(less ? (int) -bigs.low(r) : (int) bigs.low(r));
            int i = room.make(1 + n);
            room.put(i, less ? -n : n);
            for (int j = 0; j < n; j++) room.put(i + 1 + j, bigs.limb(r, j));
            return Room.value(Room.BIG, i);
        }

        boolean isOver(int r) {
            return bigs.bits(r) > MOST_BITS || bigs.bits(r + 1) > MOST_BITS;
        }

        /** The number in the registers. */
        int store(int r) {
            int n = storeWhole(r, minus[r & 15]);
            if (bigs.isOne(r + 1)) return n;
            int d = storeWhole(r + 1, false);
            return Room.value(Room.RATIO, room.record(2, n, d, 0, 0));
        }

        /** Lowest terms. */
        void reduce(int r) {
            if (bigs.isOne(r + 1)) return;
            bigs.gcd(8, r, r + 1);
            if (bigs.isOne(8)) return;
            bigs.divide(9, 11, r, 8);
            bigs.copy(r, 9);
            bigs.divide(9, 11, r + 1, 8);
            bigs.copy(r + 1, 9);
        }

        int newFlo(long flo) {
            int i = room.make(2);
            room.put(i, (int) (flo >> 32));
            room.put(i + 1, (int) flo);
            return Room.value(Room.FLO, i);
        }

        // FLONUMS

        /** The FLONUM nearest to the register times 2 to the power (and to something less than a bit more, if more). */
        private long round(boolean less, int r, int power, boolean more) {
            long sign = less ? TURN : 0;
            int n = bigs.bits(r);
            if (n == 0) return sign;
            int lowest = Math.max(n + power - 53, -1074);
            int cut = lowest - power;
            if (cut > 0) bigs.right(11, r, cut);
            else bigs.left(11, r, -cut);
            long m = bigs.low(11);
            if (bigs.bit(r, cut - 1) && (more || bigs.below(r, cut - 1) || (m & 1) == 1)) m++;
            if (m == HIDDEN << 1) {
                m = HIDDEN;
                lowest++;
            }
            if (m >= HIDDEN && lowest > 971) return sign | INFINITE;
            if (m < HIDDEN) return sign | m;
            return sign | (long) (lowest + 1075) << 52 | m & (HIDDEN - 1);
        }

        /** The FLONUM nearest to the fraction in r and r + 1. */
        long rounded(int r) {
            int up = 66 - bigs.bits(r) + bigs.bits(r + 1);
            bigs.left(6, r, Math.max(0, up));
            bigs.left(7, r + 1, Math.max(0, -up));
            bigs.divide(8, 9, 6, 7);
            return round(minus[r & 15], 8, -up, !bigs.isZero(9));
        }

        private long toFlo(int v) {
            if (Room.kind(v) == Room.FLO) return flo(v);
            load(v, 4);
            return bigs.isOne(5) ? round(minus[4], 4, 0, false) : rounded(4);
        }

        private long floPlus(long a, long b) {
            if (isNan(a) || isNan(b)) return NAN;
            if (!isFinite(a)) return isFinite(b) || a == b ? a : NAN;
            if (!isFinite(b)) return b;
            if (isZero(a)) return isZero(b) ? a & b : b;
            if (isZero(b)) return a;
            int low = Math.min(power(a), power(b));
            bigs.set(4, mantissa(a));
            bigs.left(4, 4, power(a) - low);
            bigs.set(6, mantissa(b));
            bigs.left(6, 6, power(b) - low);
            minus[4] = a < 0;
            minus[6] = b < 0;
            plus(4, 4, 6);
            return bigs.isZero(4) ? 0 : round(minus[4], 4, low, false);
        }

        private long floTimes(long a, long b) {
            long sign = (a ^ b) & TURN;
            if (isNan(a) || isNan(b)) return NAN;
            if (!isFinite(a) || !isFinite(b)) return isZero(a) || isZero(b) ? NAN : sign | INFINITE;
            bigs.set(4, mantissa(a));
            bigs.set(5, mantissa(b));
            bigs.multiply(6, 4, 5);
            return round(sign != 0, 6, power(a) + power(b), false);
        }

        private long floBy(long a, long b) {
            long sign = (a ^ b) & TURN;
            if (isNan(a) || isNan(b)) return NAN;
            if (!isFinite(a)) return isFinite(b) ? sign | INFINITE : NAN;
            if (!isFinite(b)) return sign;
            if (isZero(b)) return isZero(a) ? NAN : sign | INFINITE;
            bigs.set(4, mantissa(a));
            bigs.left(4, 4, 120);
            bigs.set(5, mantissa(b));
            bigs.divide(6, 7, 4, 5);
            return round(sign != 0, 6, power(a) - power(b) - 120, !bigs.isZero(7));
        }

        private long floRoot(long a) {
            if (isNan(a)) return NAN;
            if (isZero(a) || a == INFINITE) return a;
            int odd = power(a) & 1;
            bigs.set(4, mantissa(a) << odd);
            bigs.left(4, 4, 120);
            bigs.root(6, 4);
            bigs.multiply(7, 6, 6);
            return round(false, 6, (power(a) - odd - 120) / 2, bigs.compare(7, 4) != 0);
        }

        int compare(int a, int b) {
            if ((a & b & 1) == 1) return Integer.compare(a, b);
            boolean floA = Room.kind(a) == Room.FLO;
            boolean floB = Room.kind(b) == Room.FLO;
            long x = floA ? flo(a) : 0;
            long y = floB ? flo(b) : 0;
            if (isNan(x) || isNan(y)) return 2;
            if (floA && floB) return Long.compare(x < 0 ? -(x & SIZE) : x, y < 0 ? -(y & SIZE) : y);
            if (!isFinite(x)) return signOf(a);
            if (!isFinite(y)) return -signOf(b);
            load(a, 0);
            load(b, 2);
            if (minus[0] != minus[2]) return minus[0] ? -1 : 1;
            bigs.multiply(4, 0, 3);
            bigs.multiply(5, 2, 1);
            int order = bigs.compare(4, 5);
            return minus[0] ? -order : order;
        }

        // reckoning

        /** Register to gets the sum of a and b with their signs. */
        private void plus(int to, int a, int b) {
            boolean less = minus[a & 15];
            if (less == minus[b & 15]) {
                bigs.add(to, a, b);
            } else if (bigs.compare(a, b) >= 0) {
                bigs.subtract(to, a, b);
            } else {
                less = minus[b & 15];
                bigs.subtract(to, b, a);
            }
            minus[to & 15] = less && !bigs.isZero(to);
        }

        private int limit() {
            return room.failNamed(Room.IS_LIMIT);
        }

        private int zero() {
            return room.failNamed(Room.IS_ZERO);
        }

        private int range(int operand) {
            return room.failWith(Room.IS_RANGE, operand);
        }

        private boolean hasFlo(int n) {
            for (int i = 1; i <= n; i++) if (Room.kind(room.arg(i)) == Room.FLO) return true;
            return false;
        }

        /** + - * / of at least two operands. */
        private int chain(Proc p, int n) {
            if (hasFlo(n)) {
                long flo = toFlo(room.arg(1));
                for (int i = 2; i <= n; i++) {
                    long next = toFlo(room.arg(i));
                    if (p == Proc.PLUS) flo = floPlus(flo, next);
                    else if (p == Proc.MINUS) flo = floPlus(flo, next ^ TURN);
                    else if (p == Proc.DIVIDE) flo = floBy(flo, next);
                    else flo = floTimes(flo, next);
                }
                return madeFlo(flo);
            }
            load(room.arg(1), 0);
            for (int i = 2; i <= n; i++) {
                load(room.arg(i), 2);
                if (p == Proc.DIVIDE && bigs.isZero(2)) return zero();
                if (p == Proc.PLUS || p == Proc.MINUS) add(p == Proc.MINUS);
                else product(p == Proc.DIVIDE);
                reduce(0);
                if (isOver(0)) return limit();
            }
            return made(store(0));
        }

        /** Registers 0 and 1 get the sum of what is there and what is in 2 and 3 (or the difference). */
        private void add(boolean difference) {
            if (difference) minus[2] = !minus[2];
            if (bigs.isOne(1) && bigs.isOne(3)) {
                plus(0, 0, 2);
                return;
            }
            bigs.multiply(4, 0, 3);
            bigs.multiply(5, 2, 1);
            minus[4] = minus[0];
            minus[5] = minus[2];
            plus(0, 4, 5);
            bigs.multiply(6, 1, 3);
            bigs.copy(1, 6);
        }

        private void product(boolean quotient) {
            bigs.multiply(4, 0, quotient ? 3 : 2);
            bigs.multiply(5, 1, quotient ? 2 : 3);
            bigs.copy(0, 4);
            bigs.copy(1, 5);
            minus[0] = minus[0] != minus[2] && !bigs.isZero(0);
        }

        int reckon(Proc p, int n) {
            int a = room.arg(1);
            switch (p) {
                case PLUS:
                case TIMES:
                    if (n == 0) return Room.fix(p == Proc.PLUS ? 0 : 1);
                    return n == 1 ? a : chain(p, n);
                case MINUS: return n == 1 ? opposite(a) : chain(p, n);
                case DIVIDE:
                    if (n > 1) return chain(p, n);
                    room.setArg(1, Room.fix(1));
                    room.setArg(2, a);
                    return chain(p, 2);
                case SQUARE:
                    room.setArg(2, a);
                    return chain(p, 2);
                case MAX: return best(n, 1);
                case MIN: return best(n, -1);
                case ABS: return signOf(a) < 0 ? opposite(a) : a;
                case GCD:
                case LCM: return common(p, n);
                case EXPT: return expt(a, room.arg(2));
                case SQRT: return sqrt(a);
                case EXACT_SQRT: return exactSqrt(a);
                default: return division(p, a, room.arg(2));
            }
        }

        private int opposite(int a) {
            if (Room.kind(a) == Room.FLO) return madeFlo(isNan(flo(a)) ? NAN : flo(a) ^ TURN);
            load(a, 0);
            minus[0] = !minus[0] && !bigs.isZero(0);
            return made(store(0));
        }

        private int best(int n, int way) {
            int best = room.arg(1);
            for (int i = 2; i <= n; i++) if (compare(room.arg(i), best) == way) best = room.arg(i);
            if (n == 1 || !hasFlo(n) || Room.kind(best) == Room.FLO) return best;
            return madeFlo(toFlo(best));
        }

        private int common(Proc p, int n) {
            boolean flo = hasFlo(n);
            bigs.set(0, p == Proc.GCD ? 0 : 1);
            bigs.set(1, 1);
            for (int i = 1; i <= n; i++) {
                load(room.arg(i), 2);
                bigs.gcd(4, 0, 2);
                if (p == Proc.LCM && !bigs.isZero(4)) {
                    bigs.divide(5, 6, 2, 4);
                    bigs.multiply(4, 0, 5);
                }
                bigs.copy(0, 4);
                if (isOver(0)) return limit();
            }
            minus[0] = false;
            return whole(0, flo);
        }

        /** An integer that was reckoned exactly, and is a FLONUM if an operand is one. */
        private int whole(int r, boolean flo) {
            if (flo) room.spend(4);
            if (flo) return newFlo(round(minus[r & 15], r, 0, false));
            int bits = bigs.bits(r);
            if (bits > 28) room.spend(2 + (bits + 31) / 32);
            return storeWhole(r, minus[r & 15]);
        }

        private int expt(int base, int exponent) {
            load(exponent, 2);
            if (Room.kind(base) == Room.FLO) return madeFlo(floPower(flo(base)));
            load(base, 0);
            boolean below = minus[2];
            if (bigs.isZero(0) && below) return zero();
            boolean less = minus[0] && bigs.isOdd(2);
            if (bigs.isZero(0) || bigs.isOne(0) && bigs.isOne(1)) {
                if (bigs.isZero(2)) bigs.set(0, 1);
            } else if (bigs.bits(2) > 13 || !exactPower(0) || !exactPower(1)) {
                return limit();
            }
            if (below) {
                bigs.copy(4, 0);
                bigs.copy(0, 1);
                bigs.copy(1, 4);
            }
            minus[0] = less;
            if (Room.kind(exponent) != Room.FLO) return made(store(0));
            return madeFlo(bigs.isOne(1) ? round(less, 0, 0, false) : rounded(0));
        }

        /** Register r to the power in register 2, false if it is more than the limit lets be. */
        private boolean exactPower(int r) {
            bigs.set(4, 1);
            for (int i = bigs.bits(2) - 1; i >= 0; i--) {
                bigs.multiply(5, 4, 4);
                bigs.copy(4, 5);
                if (bigs.bit(2, i)) {
                    bigs.multiply(5, 4, r);
                    bigs.copy(4, 5);
                }
                if (bigs.bits(4) > MOST_BITS) return false;
            }
            bigs.copy(r, 4);
            return true;
        }

        private long floPower(long base) {
            boolean below = minus[2];
            long power = ONE;
            for (int i = bigs.bits(2) - 1; i >= 0; i--) {
                power = floTimes(power, power);
                if (bigs.bit(2, i)) power = floTimes(power, base);
            }
            return below ? floBy(ONE, power) : power;
        }

        private int sqrt(int a) {
            if (signOf(a) < 0) return range(a);
            if (Room.kind(a) == Room.FLO) return madeFlo(floRoot(flo(a)));
            load(a, 0);
            if (!isSquare(0) || !isSquare(1)) return madeFlo(floRoot(toFlo(a)));
            bigs.root(2, 0);
            bigs.root(3, 1);
            minus[2] = false;
            return made(store(2));
        }

        private boolean isSquare(int r) {
            bigs.root(4, r);
            bigs.multiply(5, 4, 4);
            return bigs.compare(5, r) == 0;
        }

        private int exactSqrt(int a) {
            load(a, 0);
            bigs.root(2, 0);
            bigs.multiply(4, 2, 2);
            bigs.subtract(6, 0, 4);
            minus[2] = false;
            minus[6] = false;
            return both(2, 6, false);
        }

        /** The VALUES of two registers. */
        private int both(int r, int s, boolean flo) {
            room.spend(3);
            int first = whole(r, flo);
            int second = whole(s, flo);
            return Room.value(Room.VALUES, room.record(3, 2, first, second, 0));
        }

        private int division(Proc p, int a, int b) {
            if (signOf(b) == 0) return zero();
            boolean flo = Room.kind(a) == Room.FLO || Room.kind(b) == Room.FLO;
            load(a, 2);
            load(b, 4);
            boolean apart = minus[2] != minus[4];
            bigs.divide(6, 7, 2, 4);
            boolean floor = p == Proc.MODULO || p == Proc.FLOOR_QUOTIENT || p == Proc.FLOOR_REMAINDER
                || p == Proc.FLOOR_BOTH;
            boolean down = floor && apart && !bigs.isZero(7);
            if (down) {
                bigs.set(8, 1);
                bigs.add(6, 6, 8);
                bigs.subtract(7, 4, 7);
            }
            minus[6] = apart && !bigs.isZero(6);
            minus[7] = (down ? minus[4] : minus[2]) && !bigs.isZero(7);
            switch (p) {
                case QUOTIENT:
                case FLOOR_QUOTIENT:
                case TRUNCATE_QUOTIENT: return whole(6, flo);
                case FLOOR_BOTH:
                case TRUNCATE_BOTH: return both(6, 7, flo);
                default: return whole(7, flo);
            }
        }

        // one number's parts

        int part(Proc p) {
            int a = room.arg(1);
            boolean flo = Room.kind(a) == Room.FLO;
            if (p == Proc.INEXACT) return flo ? a : madeFlo(toFlo(a));
            if (p == Proc.EXACT) {
                if (!flo) return a;
                if (!isFinite(flo(a))) return range(a);
                load(a, 0);
                return made(store(0));
            }
            if (p == Proc.NUMERATOR || p == Proc.DENOMINATOR) return fractionPart(p, a, flo);
            if (isWhole(a)) return a;
            if (flo && (isIntegral(flo(a)) || !isFinite(flo(a)))) return madeFlo(flo(a));
            boolean less = signOf(a) < 0;
            load(a, 0);
            toWhole(p, less);
            minus[2] = less && !bigs.isZero(2);
            return flo ? madeFlo(round(less, 2, 0, false)) : whole(2, false);
        }

        private int fractionPart(Proc p, int a, boolean flo) {
            boolean upper = p == Proc.NUMERATOR;
            if (flo) {
                if (!isFinite(flo(a))) return range(a);
                load(a, 0);
                return madeFlo(upper ? round(minus[0], 0, 0, false) : round(false, 1, 0, false));
            }
            if (Room.kind(a) == Room.RATIO) return room.at(Room.index(a) + (upper ? 0 : 1));
            return upper ? a : Room.fix(1);
        }

        /** Register 2: the size of a fraction in 0 and 1 made an integer. */
        private void toWhole(Proc p, boolean less) {
            bigs.divide(2, 3, 0, 1);
            boolean up = p == Proc.FLOOR && less || p == Proc.CEILING && !less;
            if (p == Proc.ROUND) {
                bigs.left(4, 3, 1);
                int order = bigs.compare(4, 1);
                up = order > 0 || order == 0 && bigs.isOdd(2);
            }
            if (up) {
                bigs.set(4, 1);
                bigs.add(2, 2, 4);
            }
        }

        // what is asked of numbers

        int ask(Proc p, int n) {
            int a = room.arg(1);
            boolean isFlo = Room.kind(a) == Room.FLO;
            long flo = isFlo ? flo(a) : 0;
            switch (p) {
                case IS_NUMBER:
                case IS_COMPLEX:
                case IS_REAL: return Room.truth(isNumber(a));
                case IS_RATIONAL: return Room.truth(isNumber(a) && isFinite(flo));
                case IS_INTEGER: return Room.truth(isInteger(a));
                case IS_EXACT_INTEGER: return Room.truth(isWhole(a));
                case IS_EXACT: return Room.truth(!isFlo);
                case IS_INEXACT: return Room.truth(isFlo);
                case IS_FINITE: return Room.truth(isFinite(flo));
                case IS_INFINITE: return Room.truth(!isFinite(flo) && !isNan(flo));
                case IS_NAN: return Room.truth(isNan(flo));
                case IS_ZERO: return Room.truth(signOf(a) == 0 && !isNan(flo));
                case IS_POSITIVE: return Room.truth(signOf(a) > 0);
                case IS_NEGATIVE: return Room.truth(signOf(a) < 0);
                case IS_ODD:
                case IS_EVEN:
                    load(a, 0);
                    return Room.truth(bigs.isOdd(0) == (p == Proc.IS_ODD));
                default: return Room.truth(inOrder(p, n));
            }
        }

        private boolean inOrder(Proc p, int n) {
            for (int i = 2; i <= n; i++) {
                int order = compare(room.arg(i - 1), room.arg(i));
                boolean holds;
                if (p == Proc.EQUALS) holds = order == 0;
                else if (p == Proc.LESS) holds = order == -1;
                else if (p == Proc.MORE) holds = order == 1;
                else if (p == Proc.NOT_MORE) holds = order == 0 || order == -1;
                else holds = order == 0 || order == 1;
                if (!holds) return false;
            }
            return true;
        }
    }

    /** Numbers as texts: the signs stand in a row of their own. */
    private static final class Numerals {
        static final int ROW = 1 << 14;
        static final int INDEX = ROW - 1;
        static final int MOST_SIGNS = 1200;
        static final int NONE = 0, EXACTLY = 1, DECIMAL = 2, INF = 3, NAN = 4;
        static final long TINY = 0x3e7ad7f29abcaf48L;
        static final long GREAT = 0x444b1ae4d6e2ef50L;

        final int[] signs = new int[ROW];
        private final Bigs bigs;
        private final Numbers numbers;
        private final Room room;
        private int size;
        private int at;
        private int radix;
        private int exactness;
        private int sort;
        private int tens;

        Numerals(Room room, Bigs bigs, Numbers numbers) {
            this.room = room;
            this.bigs = bigs;
            this.numbers = numbers;
        }

        private int sign(int i) {
            return i >= 0 && i < size ? signs[i & INDEX] : 0;
        }

        void setSign(int i, int c) {
            signs[i & INDEX] = c;
        }

        // from text: scan looks whether there is a number, finish makes it

        /** Whether the first n signs are a number; its parts go to the registers. */
        boolean scan(int n, int radixAsked) {
            size = n;
            at = 0;
            radix = radixAsked;
            exactness = 0;
            sort = NONE;
            if (n > MOST_SIGNS || !prefixes()) return false;
            boolean less = sign(at) == '-';
            boolean signed = less || sign(at) == '+';
            if (signed) at++;
            numbers.setMinus(0, less);
            bigs.set(0, 0);
            bigs.set(1, 1);
            if (signed && size - at == 5 && sign(at + 3) == '.' && sign(at + 4) == '0') special();
            if (sort != NONE) return exactness != 'e';
            int digits = digits(0);
            if (at == size && digits > 0) {
                sort = EXACTLY;
            } else if (sign(at) == '/' && digits > 0) {
                at++;
                bigs.set(1, 0);
                if (digits(1) > 0 && at == size && !bigs.isZero(1)) sort = EXACTLY;
            } else if (radix == 10) {
                decimal(digits);
            }
            return sort != NONE;
        }

        private boolean prefixes() {
            boolean told = false;
            for (int n = 0; n < 2 && sign(at) == '#'; n++) {
                int c = sign(at + 1);
                if (c == 'e' || c == 'i') {
                    if (exactness != 0) return false;
                    exactness = c;
                } else {
                    int r = c == 'x' ? 16 : c == 'o' ? 8 : c == 'b' ? 2 : c == 'd' ? 10 : 0;
                    if (r == 0 || told) return false;
                    radix = r;
                    told = true;
                }
                at += 2;
            }
            return true;
        }

        private void special() {
            int a = sign(at);
            int b = sign(at + 1);
            int c = sign(at + 2);
            if (a == 'i' && b == 'n' && c == 'f') sort = INF;
            if (a == 'n' && b == 'a' && c == 'n') sort = NAN;
        }

        static int digit(int c) {
            if (c >= '0' && c <= '9') return c - '0';
            if (c >= 'a' && c <= 'f') return c - 'a' + 10;
            if (c >= 'A' && c <= 'F') return c - 'A' + 10;
            return 99;
        }

        /** The digits from here on go to the register; how many. */
        private int digits(int r) {
            int start = at;
            for (; at < size && digit(sign(at)) < radix; at++) bigs.scale(r, radix, digit(sign(at)));
            return at - start;
        }

        /** So many digits were there; perhaps a . and more, perhaps an exponent. */
        private void decimal(int before) {
            int behind = 0;
            if (sign(at) == '.') {
                at++;
                behind = digits(0);
            }
            if (before + behind == 0) return;
            tens = -behind;
            if (at < size) {
                if (sign(at) != 'e' && sign(at) != 'E') return;
                at++;
                boolean less = sign(at) == '-';
                if (less || sign(at) == '+') at++;
                int digits = size - at;
                int e = 0;
                if (digits < 1 || digits > 3) return;
                for (; at < size; at++) {
                    if (sign(at) < '0' || sign(at) > '9') return;
                    e = e * 10 + sign(at) - '0';
                }
                tens += less ? -e : e;
            }
            sort = DECIMAL;
        }

        /** The number that was scanned, TOO_BIG if it is more than the limit lets be. */
        int finish() {
            boolean less = numbers.isMinus(0);
            if (sort == NAN) return numbers.newFlo(Numbers.NAN);
            if (sort == INF) return numbers.newFlo(less ? Numbers.INFINITE | Numbers.TURN : Numbers.INFINITE);
            boolean exact = sort == EXACTLY ? exactness != 'i' : exactness == 'e';
            if ((exact || sort == EXACTLY) && numbers.isOver(0)) return Room.TOO_BIG;
            if (sort == DECIMAL && !bigs.isZero(0)) bigs.tens(tens >= 0 ? 0 : 1, Math.abs(tens));
            if (!exact) return numbers.newFlo(numbers.rounded(0));
            numbers.reduce(0);
            if (bigs.isZero(0)) numbers.setMinus(0, false);
            return numbers.isOver(0) ? Room.TOO_BIG : numbers.store(0);
        }

        int units(int v) {
            return numbers.units(v);
        }

        // to text

        /** The number's signs: how many. */
        int text(int v, int radixAsked) {
            radix = radixAsked;
            size = 0;
            int kind = Room.kind(v);
            if (kind == Room.RATIO) {
                whole(room.at(Room.index(v)));
                add('/');
                whole(room.at(Room.index(v) + 1));
            } else if (kind != Room.FLO) {
                whole(v);
            } else {
                long flo = numbers.flo(v);
                long positive = flo & Numbers.SIZE;
                if (flo < 0) add('-');
                int start = size;
                if (!Numbers.isFinite(flo) || positive == 0) {
                    special(flo);
                } else {
                    int point = shortest(Numbers.mantissa(positive), Numbers.power(positive));
                    if (positive > TINY && positive < GREAT) plain(start, point);
                    else scientific(start, point - 1);
                }
            }
            return size;
        }

        private void add(int c) {
            signs[size & INDEX] = c;
            size++;
        }

        private void special(long flo) {
            String text = flo == Numbers.NAN ? "+nan.0" : flo == Numbers.INFINITE ? "+inf.0" : "inf.0";
            if ((flo & Numbers.SIZE) == 0) text = "0.0";
            for (int i = 0; i < text.length(); i++) add(text.charAt(i));
        }

        private void whole(int v) {
            numbers.loadWhole(v, 0);
            if (numbers.isMinus(0)) add('-');
            int start = size;
            for (int n = 0; n < ROW && (n == 0 || !bigs.isZero(0)); n++) {
                int digit = bigs.cut(0, radix);
                add(digit < 10 ? '0' + digit : 'a' + digit - 10);
            }
            for (int i = start, j = size - 1; i < j; i++, j--) {
                int c = sign(i);
                setSign(i, sign(j));
                setSign(j, c);
            }
        }

        /** Digits d from start on, of 0.ddd times 10 to the point: as digits with a point. */
        private void plain(int start, int point) {
            int digits = size - start;
            if (point <= 0) {
                insert(start, 2 - point);
                setSign(start + 1, '.');
            } else if (point >= digits) {
                for (int i = digits; i < point; i++) add('0');
                add('.');
                add('0');
            } else {
                insert(start + point, 1);
                setSign(start + point, '.');
            }
        }

        /** Room for n signs ahead of the sign at i: 0 in all. */
        private void insert(int i, int n) {
            for (int j = size - 1; j >= i; j--) setSign(j + n, sign(j));
            size += n;
            for (int j = 0; j < n; j++) setSign(i + j, '0');
        }

        private void scientific(int start, int exponent) {
            if (size - start > 1) {
                insert(start + 1, 1);
                setSign(start + 1, '.');
            }
            add('e');
            if (exponent < 0) add('-');
            int e = Math.abs(exponent);
            if (e >= 100) add('0' + e / 100);
            if (e >= 10) add('0' + e / 10 % 10);
            add('0' + e % 10);
        }

        /**
         * The fewest digits of which m times 2 to the power is the nearest FLONUM: 0.ddd times 10 to what is answered.
         * Register 0 by 1 is the number, 2 by 1 and 3 by 1 are the halves of the gaps below and above it.
         */
        private int shortest(long m, int power) {
            boolean even = (m & 1) == 0;
            int more = m == Numbers.HIDDEN && power > -1074 ? 2 : 1;
            bigs.set(4, m);
            bigs.left(0, 4, Math.max(0, power) + more);
            bigs.set(4, 1);
            bigs.left(1, 4, Math.max(0, -power) + more);
            bigs.left(2, 4, Math.max(0, power));
            bigs.left(3, 4, Math.max(0, power) + more - 1);
            int bits = 64 - Long.numberOfLeadingZeros(m) + power;
            int point = Math.floorDiv(bits * 30103, 100000) - 1;
            bigs.tens(point >= 0 ? 1 : 0, Math.abs(point));
            bigs.tens(2, Math.max(0, -point));
            bigs.tens(3, Math.max(0, -point));
            for (int n = 0; n < 8 && reaches(even); n++) {
                bigs.scale(1, 10, 0);
                point++;
            }
            for (int n = 0; n < 32; n++) if (isLastDigit(even)) break;
            return point;
        }

        /** Whether the number with the gap above it is more than 1 (or 1, if what lies in the middle counts). */
        private boolean reaches(boolean even) {
            bigs.add(4, 0, 3);
            int order = bigs.compare(4, 1);
            return order > 0 || order == 0 && even;
        }

        private boolean isLastDigit(boolean even) {
            bigs.scale(0, 10, 0);
            bigs.scale(2, 10, 0);
            bigs.scale(3, 10, 0);
            int digit = 0;
            for (; digit < 10 && bigs.compare(0, 1) >= 0; digit++) bigs.subtract(0, 0, 1);
            int order = bigs.compare(0, 2);
            boolean low = order < 0 || order == 0 && even;
            boolean high = reaches(even);
            bigs.left(4, 0, 1);
            int half = bigs.compare(4, 1);
            boolean up = low && high ? half > 0 || half == 0 && (digit & 1) == 1 : high;
            add('0' + (up ? digit + 1 : digit));
            return low || high;
        }
    }

    /** Texts to DATA, a TOKEN each step, and the INPUT. What is WRONG at a PLACE is thrown. */
    private static final class Reader {
        static final int LIST = 0, VECTOR = 1, BYTES = 2, QUOTED = 3, LABELLED = 4, SKIPPED = 5, CLOSE = 6, QUASI = 7;
        static final int COMMA = 8, STRING = 9, BARRED = 10, CHARACTER = 11, LABEL = 12, WORD = 13;
        static final int NORMAL = 0, DOTTED = 1, CLOSING = 2;
        static final int UNTOLD = 0, TOLD = 1, KNOWN = 2, BEGUN = 3;
        static final int DEEPEST = 60;
        static final int ROW = 1 << 14;
        static final int INDEX = ROW - 1;

        final int[] forms = new int[ROW];
        int count;
        int datum;
        int place;
        int tally;
        boolean done;
        private final Room room;
        private final Numerals numerals;
        private final byte[] input = new byte[TAPE];
        private int inputSize;
        private int inputAt;
        private byte[] text = input;
        private boolean fromInput;
        private int size;
        private int at;
        private int mark;
        private int depth;
        private int top;
        private int held;
        private final int[] stack = new int[ROW];
        private final int[] labels = new int[256];

        Reader(Room room, Numerals numerals) {
            this.room = room;
            this.numerals = numerals;
        }

        // the INPUT

        void takeInput(byte[] from, int n) {
            inputSize = Math.min(n, TAPE);
            inputAt = 0;
            System.arraycopy(from, 0, input, 0, inputSize);
        }

        int inputLeft() {
            return inputSize - inputAt;
        }

        /** The INPUT's sign so far behind the next one, -1 at its end. */
        int peek(int behind) {
            int i = inputAt + behind;
            if (i < 0 || i >= inputSize || i >= TAPE) return -1;
            return input[i] < 0 ? '?' : input[i];
        }

        void pass(int n) {
            inputAt = Math.min(inputSize, inputAt + n);
        }

        // texts

        /** All DATA of a text are to go to forms. */
        void begin(byte[] from, int n) {
            text = from;
            fromInput = false;
            at = 0;
            size = Math.min(n, from.length);
            count = 0;
            start();
        }

        /** The INPUT's next DATUM is to go to datum, or the eof object. */
        void beginInput() {
            text = input;
            fromInput = true;
            at = inputAt;
            size = inputSize;
            start();
        }

        private void start() {
            mark = room.top;
            tally = 0;
            top = 0;
            depth = 0;
            held = 0;
            datum = Room.END;
            done = false;
        }

        /** How far the INPUT was read, or its end if what was there is no DATUM; of that nothing stays. */
        void endInput(boolean right) {
            inputAt = right ? at : inputSize;
            if (!right) forget();
        }

        void forget() {
            tally = 0;
            room.forget(mark);
        }

        private void wrong(int where) {
            place = where;
            throw new IllegalArgumentException();
        }

        void step() {
            skipBlanks();
            if (at >= size) {
                if (top > 0) wrong(size);
                done = true;
                return;
            }
            int sort = sort();
            switch (sort) {
                case LIST:
                case VECTOR:
                case BYTES:
                    open(sort);
                    break;
                case SKIPPED:
                    push(SKIPPED, 0, 0);
                    at += 2;
                    break;
                case CLOSE:
                    close();
                    break;
                case QUOTED:
                    quote("quote", 1);
                    break;
                case QUASI:
                    quote("quasiquote", 1);
                    break;
                case COMMA:
                    if (at + 1 < size && text[at + 1] == '@') quote("unquote-splicing", 2);
                    else quote("unquote", 1);
                    break;
                case STRING:
                    string();
                    break;
                case BARRED:
                    barred();
                    break;
                case CHARACTER:
                    character();
                    break;
                case LABEL:
                    label();
                    break;
                default:
                    int from = at;
                    int n = word(from);
                    int number = numerals.scan(n, 10) ? numerals.finish() : Room.NOTHING;
                    if (number == Room.TOO_BIG) wrong(from);
                    if (frame(0) == BYTES) element(from, number);
                    else atom(from, n, number);
            }
            if (fromInput && top == 0 && datum != Room.END) done = true;
        }

        /** The byte there, as it counts; WRONG if it is so everywhere. */
        private int sign(int i) {
            int c = i >= 0 && i < size && i < text.length ? text[i] : 0;
            if (c < 0 && fromInput) c = '?';
            if (c != 9 && c != 10 && c != 13 && (c < 32 || c > 126)) {
                place = i;
                throw new IllegalArgumentException();
            }
            return c;
        }

        /** The byte there, 0 if there is none. */
        private int ahead(int i) {
            return i >= 0 && i < size && i < text.length ? text[i] : 0;
        }

        private static boolean isDelimiter(int c) {
            return c == 9 || c == 10 || c == 13 || c == 32 || c == '(' || c == ')' || c == '"' || c == ';' || c == '\''
                || c == '`' || c == ',' || c == '|';
        }

        private void skipBlanks() {
            for (int turn = 0; turn <= size && at < size; turn++) {
                int c = sign(at);
                if (c == 9 || c == 10 || c == 13 || c == 32) {
                    at++;
                } else if (c == ';') {
                    while (at < size && sign(at) != 10) at++;
                } else if (c == '#' && ahead(at + 1) == '|') {
                    skipBlock();
                } else {
                    return;
                }
            }
        }

        private void skipBlock() {
            int within = 0;
            for (int turn = 0; turn <= size; turn++) {
                if (at >= size) wrong(size);
                int c = sign(at);
                int next = ahead(at + 1);
                if (c == '#' && next == '|') {
                    within++;
                    at += 2;
                } else if (c == '|' && next == '#') {
                    within--;
                    at += 2;
                    if (within == 0) return;
                } else {
                    at++;
                }
            }
        }

        /** What begins here. In #u8( ) there are NUMBERS alone, behind a . and its DATUM there is nothing more. */
        private int sort() {
            int c = sign(at);
            int next = ahead(at + 1);
            if (c == '#' && next == ';') return SKIPPED;
            if (c == ')') return CLOSE;
            if (frame(0) == LIST && frame(3) == CLOSING) wrong(at);
            if (frame(0) == BYTES) {
                if (isDelimiter(c)) wrong(at);
                return WORD;
            }
            switch (c) {
                case '(': return LIST;
                case '\'': return QUOTED;
                case '`': return QUASI;
                case ',': return COMMA;
                case '"': return STRING;
                case '|': return BARRED;
                case '#': break;
                default: return WORD;
            }
            if (next == '(') return VECTOR;
            if (next == '\\') return CHARACTER;
            if (next == 'u' && ahead(at + 2) == '8' && ahead(at + 3) == '(') return BYTES;
            int end = ahead(at + 2);
            if (end >= '0' && end <= '9') end = ahead(at + 3);
            return next >= '0' && next <= '9' && (end == '=' || end == '#') ? LABEL : WORD;
        }

        // what is open: five words each, the kind and what belongs to it

        private int frame(int word) {
            return top > 0 ? stack[(top * 5 - 5 + word) & INDEX] : -1;
        }

        private void setFrame(int word, int to) {
            stack[(top * 5 - 5 + word) & INDEX] = to;
        }

        private void push(int kind, int a, int b) {
            if (kind != SKIPPED) {
                if (depth >= DEEPEST) wrong(at);
                depth++;
            }
            top++;
            setFrame(0, kind);
            setFrame(1, a);
            setFrame(2, b);
            setFrame(3, NORMAL);
            setFrame(4, held);
        }

        private void pop() {
            if (frame(0) != SKIPPED) depth--;
            top--;
        }

        /** A DATUM begins: an outermost one has LABELS of its own. */
        private void newDatum() {
            if (depth == 0) for (int i = 0; i < 200; i += 2) labels[i & 255] = UNTOLD;
        }

        private void made(int v) {
            int made = v;
            for (int turn = 0; turn <= size; turn++) {
                int kind = frame(0);
                if (top == 0) {
                    datum = made;
                    if (!fromInput) {
                        forms[count & INDEX] = made;
                        count++;
                    }
                    return;
                }
                if (kind == LIST) {
                    append(made);
                    return;
                }
                if (kind == VECTOR) {
                    hold(made);
                    return;
                }
                if (kind == QUOTED) {
                    room.put(Room.index(frame(2)), made);
                    made = frame(1);
                } else if (kind == LABELLED) {
                    tell(frame(1), KNOWN, made);
                }
                pop();
                if (kind == SKIPPED) return;
            }
        }

        /** The list at work gets one more element, or what stands behind its point. */
        private void append(int v) {
            if (frame(3) == DOTTED) {
                room.put(Room.index(frame(2)) + 1, v);
                setFrame(3, CLOSING);
                return;
            }
            tally++;
            int pair = frame(1);
            if (frame(2) != Room.NOTHING || pair == Room.NOTHING) pair = room.cons(v, Room.NIL);
            else room.put(Room.index(pair), v);
            if (frame(2) == Room.NOTHING) setFrame(1, pair);
            else room.put(Room.index(frame(2)) + 1, pair);
            setFrame(2, pair);
        }

        /** Elements of what is open wait at the far end of forms. */
        private void hold(int v) {
            forms[(ROW - 1 - held) & INDEX] = v;
            held++;
        }

        private void tell(int label, int state, int v) {
            labels[(label * 2) & 255] = state;
            labels[(label * 2 + 1) & 255] = v;
        }

        /** LABELS right ahead of what opens here are for it, before anything in it is read. */
        private void tellLabels(int state, int v) {
            for (int i = top - 1; i > 0; i--) {
                int f = i * 5 - 5;
                if (stack[f & INDEX] != LABELLED) return;
                tell(stack[(f + 1) & INDEX], state, v);
            }
        }

        // TOKENS

        private void open(int kind) {
            newDatum();
            if (kind == LIST) {
                push(LIST, Room.NOTHING, Room.NOTHING);
                tellLabels(BEGUN, top);
                at++;
            } else if (kind == VECTOR) {
                int v = Room.value(Room.VECTOR, room.make(2));
                push(VECTOR, v, 0);
                tellLabels(KNOWN, v);
                at += 2;
            } else {
                push(BYTES, 0, 0);
                at += 4;
            }
        }

        private void quote(String name, int signs) {
            newDatum();
            int last = room.cons(Room.NIL, Room.NIL);
            int list = room.cons(room.symbol(name), last);
            tally += 2;
            push(QUOTED, list, last);
            tellLabels(KNOWN, list);
            at += signs;
        }

        private void close() {
            int kind = frame(0);
            boolean list = kind == LIST && frame(3) != DOTTED;
            if (!list && kind != VECTOR && kind != BYTES) wrong(at);
            int v = frame(1);
            if (list && frame(2) == Room.NOTHING) v = Room.NIL;
            if (kind == VECTOR) fill(v, frame(4));
            if (kind == BYTES) v = bytes(frame(4));
            at++;
            pop();
            made(v);
        }

        /** The vector that was made ahead of what is in it gets its elements. */
        private void fill(int v, int from) {
            int n = held - from;
            int i = room.make(n);
            room.put(Room.index(v), n);
            room.put(Room.index(v) + 1, i);
            for (int j = 0; j < n; j++) room.put(i + j, forms[(ROW - 1 - from - j) & INDEX]);
            tally += 1 + n;
            held = from;
        }

        private int bytes(int from) {
            int n = held - from;
            int v = Room.value(Room.BYTES, room.make(1 + n));
            room.put(Room.index(v), n);
            for (int j = 0; j < n; j++) room.setItem(v, j, forms[(ROW - 1 - from - j) & INDEX]);
            tally += 1 + n;
            held = from;
            return v;
        }

        private void label() {
            int from = at;
            int n = ahead(at + 1) - '0';
            int i = at + 2;
            if (ahead(i) >= '0' && ahead(i) <= '9') {
                n = n * 10 + ahead(i) - '0';
                i++;
            }
            newDatum();
            int state = labels[(n * 2) & 255];
            int v = labels[(n * 2 + 1) & 255];
            if (ahead(i) == '=') {
                if (state != UNTOLD) wrong(from);
                push(LABELLED, n, 0);
                tell(n, TOLD, 0);
                at = i + 1;
                return;
            }
            if (state != KNOWN && state != BEGUN) wrong(from);
            at = i + 1;
            made(state == KNOWN ? v : firstPair(v));
        }

        /** The first pair of a list that is still open. */
        private int firstPair(int frame) {
            int f = (frame * 5 - 4) & INDEX;
            if (stack[f] == Room.NOTHING) stack[f] = room.cons(Room.NIL, Room.NIL);
            return stack[f];
        }

        private int tokenEnd(int from) {
            int end = from;
            while (end < size && !isDelimiter(sign(end))) end++;
            return end;
        }

        /** The TOKEN's signs go to numerals: how many. */
        private int word(int from) {
            boolean character = ahead(from) == '#' && ahead(from + 1) == '\\';
            if (character && from + 2 >= size) wrong(size);
            boolean signed = character && sign(from + 2) >= 32;
            at = tokenEnd(signed ? from + 3 : character ? from + 2 : from);
            for (int i = from; i < at; i++) numerals.setSign(i - from, sign(i));
            return at - from;
        }

        /** An element of #u8( ). */
        private void element(int from, int v) {
            if (Room.kind(v) != Room.FIX || v < Room.fix(0) || v > Room.fix(255)) wrong(from);
            hold(v >> 1);
        }

        /** A number, BOOLEAN, SYMBOL or a point. */
        private void atom(int from, int n, int number) {
            int v = number;
            if (v != Room.NOTHING) {
                tally += numerals.units(v);
            } else if (n == 1 && sign(from) == '.') {
                if (frame(0) != LIST || frame(3) != NORMAL || frame(2) == Room.NOTHING) wrong(from);
                setFrame(3, DOTTED);
                return;
            } else if (sign(from) == '#') {
                if (isWord(from, n, "#t") || isWord(from, n, "#true")) v = Room.TRUE;
                else if (isWord(from, n, "#f") || isWord(from, n, "#false")) v = Room.FALSE;
                else wrong(from);
            } else {
                if (n > 40 || Numerals.digit(sign(from)) < 10) wrong(from);
                for (int i = 0; i < n; i++) {
                    if (!isSymbolSign(sign(from + i))) wrong(from);
                    room.sign[i & 63] = sign(from + i);
                }
                v = room.intern(n);
                tally += room.fresh;
            }
            newDatum();
            made(v);
        }

        private boolean isWord(int from, int n, String word) {
            if (n != word.length()) return false;
            for (int i = 0; i < n; i++) if (ahead(from + i) != word.charAt(i)) return false;
            return true;
        }

        static boolean isSymbolSign(int c) {
            if (c >= '0' && c <= '9' || c >= 'a' && c <= 'z' || c >= 'A' && c <= 'Z') return true;
            return "!$%&*+-./:<=>?@^_~".indexOf((char) c) >= 0;
        }

        private void character() {
            int from = at;
            int n = word(from);
            int v = ahead(from + 2) < 32 ? -1 : ahead(from + 2);
            if (fromInput && ahead(from + 2) < 0) v = '?';
            if (n > 3) v = named(from + 2, n - 2);
            if (v < 0) wrong(from);
            newDatum();
            made(Room.character(v));
        }

        private int named(int from, int n) {
            if (isWord(from, n, "alarm")) return 7;
            if (isWord(from, n, "backspace")) return 8;
            if (isWord(from, n, "delete")) return 127;
            if (isWord(from, n, "escape")) return 27;
            if (isWord(from, n, "newline")) return 10;
            if (isWord(from, n, "null")) return 0;
            if (isWord(from, n, "return")) return 13;
            if (isWord(from, n, "space")) return 32;
            if (isWord(from, n, "tab")) return 9;
            if (ahead(from) != 'x' || n > 3) return -1;
            int code = 0;
            for (int i = 1; i < n; i++) {
                int digit = Numerals.digit(ahead(from + i));
                if (digit > 15) return -1;
                code = code * 16 + digit;
            }
            return code < 128 ? code : -1;
        }

        // strings, and SYMBOLS in bars

        private void string() {
            int from = at;
            int n = quoted('"', from);
            newDatum();
            int v = Room.value(Room.STRING, room.make(1 + n));
            room.put(Room.index(v), n);
            for (int i = 0; i < n; i++) room.setItem(v, i, room.scratch[i & (Room.SCRATCH - 1)]);
            tally += 1 + n;
            made(v);
        }

        private void barred() {
            int from = at;
            int n = quoted('|', from);
            if (n > 40) wrong(from);
            newDatum();
            for (int i = 0; i < n; i++) room.sign[i & 63] = room.scratch[i & (Room.SCRATCH - 1)];
            int v = room.intern(n);
            tally += room.fresh;
            made(v);
        }

        /** The signs up to the next such quote go to the room's scratch: how many. */
        private int quoted(int quote, int from) {
            int n = 0;
            at = from + 1;
            for (int turn = 0; turn <= size; turn++) {
                if (at >= size) wrong(size);
                int c = sign(at);
                at++;
                if (c == quote) return n;
                if (c == '\\') c = escaped(from);
                if (c >= 0) {
                    room.scratch[n & (Room.SCRATCH - 1)] = c;
                    n++;
                }
            }
            return n;
        }

        /** What stands behind a backslash: a sign, or -1 for nothing. */
        private int escaped(int from) {
            if (at >= size) wrong(size);
            int c = sign(at);
            int which = "abtnr\"\\|".indexOf((char) c);
            if (which >= 0 && which < 8) {
                at++;
                return "\7\b\t\n\r\"\\|".charAt(which);
            }
            if (c == 'x') {
                at++;
                return coded(from);
            }
            while (at < size && (sign(at) == 9 || sign(at) == 32)) at++;
            if (at >= size) wrong(size);
            if (sign(at) != 10) wrong(from);
            at++;
            while (at < size && (sign(at) == 9 || sign(at) == 32)) at++;
            return -1;
        }

        private int coded(int from) {
            int code = 0;
            for (int n = 0; n < 3; n++) {
                if (at >= size) wrong(size);
                int c = sign(at);
                at++;
                if (c == ';' && n > 0 && code < 128) return code;
                int digit = Numerals.digit(c);
                if (digit > 15 || n == 2) wrong(from);
                code = code * 16 + digit;
            }
            return code;
        }
    }

    /** Writes values, a part each step: to the OUTPUT, or as the RESULT. */
    private static final class Scribe {
        static final int MOST = 3000;
        static final int WHOLE = -1, REST = -2;
        static final int NEW = 0, OPEN = 1, CLOSED = 2, LOOPED = 3;
        static final int STACK = Room.SCRATCH - 1;
        static final int LABELS = 1023;

        boolean done = true;
        int outputSize;
        int resultSize;
        private final Room room;
        private final Numerals numerals;
        private final byte[] output = new byte[MOST];
        private final byte[] result = new byte[MOST];
        private final int[] colours = new int[Room.SIZE / 16];
        private final int[] labelled = new int[LABELS + 1];
        private int labels;
        private int lowest = Room.SIZE;
        private int highest;
        private int top;
        private boolean toResult;
        private boolean plainly;
        private boolean full;

        Scribe(Room room, Numerals numerals) {
            this.room = room;
            this.numerals = numerals;
        }

        void clear() {
            outputSize = 0;
            resultSize = 0;
        }

        int output(int i) {
            return i >= 0 && i < outputSize && i < MOST ? output[i] & 255 : NONE;
        }

        int result(int i) {
            return i >= 0 && i < resultSize && i < MOST ? result[i] & 255 : NONE;
        }

        /** LIMIT, if the OUTPUT would have too many bytes; the RESULT has those that fit. */
        void put(int c) {
            if (toResult) {
                if (resultSize < MOST) result[resultSize] = (byte) c;
                else full = true;
                resultSize = Math.min(MOST, resultSize + 1);
                return;
            }
            if (outputSize >= MOST) throw new IllegalStateException();
            output[outputSize] = (byte) c;
            outputSize++;
        }

        private void text(String text) {
            for (int i = 0; i < text.length(); i++) put(text.charAt(i));
        }

        /** A string's signs from one to another go to the OUTPUT as they are. */
        void span(int string, int from, int to) {
            toResult = false;
            for (int i = from; i < to; i++) put(room.item(string, i));
        }

        void sign(int c) {
            toResult = false;
            put(c);
        }

        void begin(int v, boolean display, boolean asResult) {
            plainly = display;
            toResult = asResult;
            done = false;
            full = false;
            labels = 0;
            if (canLoop(v)) {
                clearColours();
                findLoops(v);
            }
            top = 0;
            push(v, WHOLE);
        }

        // labels: what is come to again from within itself is LOOPED

        private static boolean canLoop(int v) {
            int kind = Room.kind(v);
            return kind == Room.PAIR || kind == Room.VECTOR;
        }

        private int colour(int v) {
            int i = Room.index(v) & (Room.SIZE - 1);
            return colours[i >> 4] >> (i & 15) * 2 & 3;
        }

        private void setColour(int v, int colour) {
            int i = Room.index(v) & (Room.SIZE - 1);
            int shift = (i & 15) * 2;
            colours[i >> 4] = colours[i >> 4] & ~(3 << shift) | colour << shift;
            lowest = Math.min(lowest, i >> 4);
            highest = Math.max(highest, i >> 4);
        }

        private void clearColours() {
            for (int i = lowest; i <= highest; i++) colours[i & (Room.SIZE / 16 - 1)] = 0;
            lowest = Room.SIZE;
            highest = 0;
        }

        /** Each object is gone into once. A pair waits as one word, with how far it is; a vector's index is below. */
        private void findLoops(int v) {
            top = 0;
            visit(v);
            for (int turn = 0; turn < Room.SIZE * 4 && top > 0; turn++) {
                int word = room.scratch[(top - 1) & STACK];
                int at = word >> 2;
                if (Room.isPair(at)) {
                    if ((word & 3) == 2) {
                        top--;
                        leave(at);
                    } else {
                        room.scratch[(top - 1) & STACK] = word + 1;
                        visit((word & 3) == 0 ? room.car(at) : room.cdr(at));
                    }
                } else {
                    int i = room.scratch[(top - 2) & STACK];
                    room.scratch[(top - 2) & STACK] = i + 1;
                    if (i < room.size(at)) {
                        visit(room.element(at, i));
                    } else {
                        top -= 2;
                        leave(at);
                    }
                }
            }
        }

        private void visit(int v) {
            if (!canLoop(v)) return;
            int colour = colour(v);
            if (colour == OPEN) setColour(v, LOOPED);
            if (colour != NEW || top > STACK - 4) return;
            setColour(v, OPEN);
            if (Room.kind(v) == Room.VECTOR) {
                room.scratch[top & STACK] = 0;
                top++;
            }
            room.scratch[top & STACK] = v << 2;
            top++;
        }

        private void leave(int v) {
            if (colour(v) == OPEN) setColour(v, CLOSED);
        }

        // writing

        private void push(int v, int how) {
            room.scratch[top & STACK] = v;
            room.scratch[(top + 1) & STACK] = how;
            top += 2;
        }

        void step() {
            if (top < 2 || full) {
                done = true;
                return;
            }
            top -= 2;
            int v = room.scratch[top & STACK];
            int how = room.scratch[(top + 1) & STACK];
            if (how == REST) {
                rest(v);
            } else if (how >= 0) {
                element(v, how);
            } else if (Numbers.isNumber(v)) {
                int n = numerals.text(v, 10);
                for (int i = 0; i < n; i++) put(numerals.signs[i & Numerals.INDEX]);
            } else if (Room.kind(v) == Room.SYMBOL) {
                int n = room.symbolSize(v);
                for (int i = 0; i < n; i++) numerals.setSign(i, room.symbolSign(v, i));
                symbol(v, n, !plainly && numerals.scan(n, 10));
            } else if (canLoop(v)) {
                compound(v);
            } else {
                atom(v);
            }
        }

        private void rest(int v) {
            if (v == Room.NIL) {
                put(')');
            } else if (Room.isPair(v) && colour(v) != LOOPED) {
                put(' ');
                push(room.cdr(v), REST);
                push(room.car(v), WHOLE);
            } else {
                text(" . ");
                push(Room.NIL, REST);
                push(v, WHOLE);
            }
        }

        private void element(int vector, int i) {
            if (i >= room.size(vector)) {
                put(')');
                return;
            }
            if (i > 0) put(' ');
            push(vector, i + 1);
            push(room.element(vector, i), WHOLE);
        }

        private void compound(int v) {
            if (colour(v) == LOOPED) {
                int label = 0;
                while (label < labels && labelled[label & LABELS] != v) label++;
                put('#');
                number(label);
                put(label < labels ? '#' : '=');
                if (label < labels) return;
                labelled[labels & LABELS] = v;
                labels++;
            }
            if (Room.isPair(v)) {
                put('(');
                push(room.cdr(v), REST);
                push(room.car(v), WHOLE);
            } else {
                text("#(");
                push(v, 0);
            }
        }

        private void number(int n) {
            if (n >= 100) put('0' + n / 100);
            if (n >= 10) put('0' + n / 10 % 10);
            put('0' + n % 10);
        }

        private void atom(int v) {
            switch (Room.kind(v)) {
                case Room.STRING:
                    if (plainly) for (int i = 0; i < room.size(v); i++) put(room.item(v, i));
                    else quotedString(v);
                    break;
                case Room.BYTES:
                    text("#u8(");
                    for (int i = 0; i < room.size(v); i++) {
                        if (i > 0) put(' ');
                        number(room.item(v, i));
                    }
                    put(')');
                    break;
                case Room.PROC: text("#<procedure>"); break;
                case Room.RECORD:
                case Room.TYPE: text("#<record>"); break;
                case Room.VALUES: text("#<values>"); break;
                case Room.ERROR: error(room.at(Room.index(v))); break;
                default: immediate(v);
            }
        }

        private void immediate(int v) {
            if (Room.isChar(v)) character(Room.code(v));
            else if (v == Room.NIL) text("()");
            else if (v == Room.TRUE) text("#t");
            else if (v == Room.FALSE) text("#f");
            else if (v == Room.END) text("#<eof>");
            else text("#<unspecified>");
        }

        private void error(int message) {
            text("#<error");
            if (Room.kind(message) == Room.STRING) {
                put(' ');
                for (int i = 0; i < room.size(message); i++) put(room.item(message, i));
            }
            put('>');
        }

        private void character(int c) {
            if (plainly) {
                put(c);
                return;
            }
            text("#\\");
            switch (c) {
                case 0: text("null"); break;
                case 7: text("alarm"); break;
                case 8: text("backspace"); break;
                case 9: text("tab"); break;
                case 10: text("newline"); break;
                case 13: text("return"); break;
                case 27: text("escape"); break;
                case 32: text("space"); break;
                case 127: text("delete"); break;
                default:
                    if (c > 32) {
                        put(c);
                    } else {
                        put('x');
                        hexadecimal(c);
                    }
            }
        }

        private void hexadecimal(int c) {
            if (c >= 16) put('0' + c / 16);
            int low = c & 15;
            put(low < 10 ? '0' + low : 'a' + low - 10);
        }

        private void quotedString(int v) {
            put('"');
            for (int i = 0; i < room.size(v); i++) escaped(room.item(v, i), false);
            put('"');
        }

        private void symbol(int v, int n, boolean number) {
            boolean bars = number || n == 0 || n == 1 && room.symbolSign(v, 0) == '.';
            for (int i = 0; i < n; i++) if (!Reader.isSymbolSign(room.symbolSign(v, i))) bars = true;
            if (n > 0 && Numerals.digit(room.symbolSign(v, 0)) < 10) bars = true;
            if (plainly) bars = false;
            if (bars) put('|');
            for (int i = 0; i < n; i++) {
                if (bars) escaped(room.symbolSign(v, i), true);
                else put(room.symbolSign(v, i));
            }
            if (bars) put('|');
        }

        private void escaped(int c, boolean bars) {
            int letter = c == 7 ? 'a' : c == 9 ? 't' : c == 10 ? 'n' : c == 13 ? 'r' : 0;
            if (c == '"' || c == '\\' || c == '|' && bars) letter = c;
            if (letter != 0) {
                put('\\');
                put(letter);
            } else if (c < 32 || c == 127) {
                text("\\x");
                hexadecimal(c);
                put(';');
            } else {
                put(c);
            }
        }
    }

    /**
     * What IDENTIFIERS MEAN. An environment is the index of a scope (parent, bindings, how many frames there are up to
     * it) or of a table (whose parent is 0). A table's bindings hang on their SYMBOLS: table, what, imported, next.
     * Libraries (a table with NAME, declarations, the next library) and what import makes of them are here, too.
     */
    private static final class Tables {
        static final int MOST_LIBRARIES = 12;
        static final int MOST_EXPORTS = 1000;
        static final int MOST_SETS = 100;
        static final int OTHER = 4096;
        static final int ALL = 8192;
        static final int MOST_ALL = 80000;

        int house;
        int libraries;
        int level;
        int lastTable;
        int lastSymbol;
        private final Room room;
        private final int[] baseNames = new int[512];
        private final int[] baseMeanings = new int[512];
        private final int[] modifiers = new int[128];
        private int bases;
        private int first;
        private int names;
        private int all;

        Tables(Room room) {
            this.room = room;
            house = room.record(4, 0, 0, 0, 0);
        }

        void renew() {
            first = 0;
            libraries = 0;
        }

        /**
         * What an IDENTIFIER MEANS: a SLOT of a scope (whose level is kept), a MACRO, CORE word, PLACE; NOTHING if its
         * SYMBOL has no binding in the table (both are kept).
         */
        int meaning(int identifier, int environment) {
            int id = identifier;
            int scope = environment;
            for (int hops = 0; hops < Room.SIZE; hops++) {
                boolean scoped = room.at(Room.index(id) + Room.SCOPED) != 0;
                for (int up = 0; up < Room.SIZE && room.at(scope) != 0; up++) {
                    int b = scoped ? room.at(scope + 1) : 0;
                    for (int turn = 0; turn < Room.SIZE && b != 0 && room.at(b) != id; turn++) b = room.at(b + 2);
                    if (b != 0) {
                        level = room.at(scope + 2);
                        return (room.at(b + 1) & 1) == 1 ? Room.value(Room.SLOT, b) : room.at(b + 1);
                    }
                    scope = room.at(scope);
                }
                if (Room.kind(id) != Room.ALIAS) break;
                scope = room.at(Room.index(id) + 1);
                id = room.at(Room.index(id));
            }
            lastTable = scope;
            lastSymbol = id;
            int b = room.at(Room.index(id) + 1);
            for (int turn = 0; turn < Room.SIZE && b != 0 && room.at(b) != scope; turn++) b = room.at(b + 3);
            return b == 0 ? Room.NOTHING : room.at(b + 1);
        }

        private int binding(int symbol, int table) {
            int b = room.at(Room.index(symbol) + 1);
            for (int turn = 0; turn < Room.SIZE && b != 0 && room.at(b) != table; turn++) b = room.at(b + 3);
            return b;
        }

        /** How many frames there are up to an environment. */
        int levelOf(int environment) {
            return room.at(environment) == 0 ? 0 : room.at(environment + 2);
        }

        /** A scope binds an IDENTIFIER: to a place in its frame (a number), or to a MACRO. */
        void bindIn(int scope, int id, int meaning) {
            int b = room.make(3);
            room.put(b, id);
            room.put(b + 1, meaning);
            room.put(b + 2, room.at(scope + 1));
            room.put(scope + 1, b);
            room.put(Room.index(id) + Room.SCOPED, 1);
        }

        boolean isBoundIn(int scope, int id) {
            if (scope == 0 || room.at(Room.index(id) + Room.SCOPED) == 0) return false;
            int b = room.at(scope + 1);
            for (int turn = 0; turn < Room.SIZE && b != 0 && room.at(b) != id; turn++) b = room.at(b + 2);
            return b != 0;
        }

        /** Whether two IDENTIFIERS MEAN the same; without a value in a table they are their SYMBOLS. */
        boolean same(int a, int environmentA, int b, int environmentB) {
            int meaning = meaning(a, environmentA);
            int symbol = isFree(meaning) ? lastSymbol : Room.NOTHING;
            int other = meaning(b, environmentB);
            if (symbol != Room.NOTHING || isFree(other)) return isFree(other) && symbol == lastSymbol;
            return meaning == other;
        }

        private boolean isFree(int meaning) {
            if (meaning == Room.NOTHING) return true;
            return Room.kind(meaning) == Room.PLACE && room.at(Room.index(meaning)) == Room.UNASSIGNED;
        }

        /** The SYMBOL MEANS this in the table now. */
        void bind(int symbol, int table, int meaning, boolean imported) {
            int chain = Room.index(symbol) + 1;
            int b = room.at(chain);
            for (int turn = 0; turn < Room.SIZE && b != 0 && room.at(b) != table; turn++) b = room.at(b + 3);
            if (b == 0) {
                b = room.make(4);
                room.put(b, table);
                room.put(b + 3, room.at(chain));
                room.put(chain, b);
            }
            room.put(b + 1, meaning);
            room.put(b + 2, imported ? 1 : 0);
        }

        /** A table gets a PLACE without a value. */
        int newPlace(int symbol, int table) {
            room.spend(2);
            int place = Room.value(Room.PLACE, room.record(2, Room.UNASSIGNED, symbol, 0, 0));
            bind(symbol, table, place, false);
            return place;
        }

        /** define: the table's own PLACE gets the value. */
        void define(int symbol, int table, int value) {
            int b = binding(symbol, table);
            boolean own = b != 0 && Room.kind(room.at(b + 1)) == Room.PLACE && room.at(b + 2) == 0;
            int place = own ? room.at(b + 1) : newPlace(symbol, table);
            room.put(Room.index(place), value);
        }

        /** What (scheme base) exports: all that the house's table has now but names that begin with %. */
        void keepBase() {
            bases = 0;
            for (int bucket = 0; bucket < Room.BUCKETS; bucket++) {
                for (int i = room.at(bucket), turn = 0; turn < Room.SIZE && i != 0; i = room.at(i), turn++) {
                    int symbol = Room.value(Room.SYMBOL, i);
                    int b = binding(symbol, house);
                    if (b != 0 && room.symbolSign(symbol, 0) != '%') addBase(symbol, room.at(b + 1));
                }
            }
        }

        private void addBase(int symbol, int meaning) {
            int i = bases & 511;
            while (i > 0 && isAhead(symbol, baseNames[i - 1])) {
                baseNames[i] = baseNames[i - 1];
                baseMeanings[i] = baseMeanings[i - 1];
                i--;
            }
            baseNames[i] = symbol;
            baseMeanings[i] = meaning;
            bases = Math.min(511, bases + 1);
        }

        /** As words in a book. */
        private boolean isAhead(int a, int b) {
            int n = Math.min(room.symbolSize(a), room.symbolSize(b));
            for (int i = 0; i < n; i++) {
                int d = room.symbolSign(a, i) - room.symbolSign(b, i);
                if (d != 0) return d < 0;
            }
            return room.symbolSize(a) < room.symbolSize(b);
        }

        // import: the names of a SET stand in the scratch, three words each (name, table, what it is there; or 0 and
        // what it MEANS), those of all SETS behind them

        void importForm(int form, int table) {
            all = 0;
            addSets(room.cdr(form), form);
            bindAll(table);
        }

        private int word(int i) {
            return room.scratch[i & (Room.SCRATCH - 1)];
        }

        private void setWord(int i, int to) {
            room.scratch[i & (Room.SCRATCH - 1)] = to;
        }

        private void setName(int i, int name, int table, int what) {
            setWord(i, name);
            setWord(i + 1, table);
            setWord(i + 2, what);
        }

        private void addSets(int sets, int whole) {
            for (int rest = sets, turn = 0; turn < Room.SIZE && Room.isPair(rest); rest = room.cdr(rest), turn++) {
                int modified = innermost(room.car(rest), whole);
                for (int i = modified - 1; i >= 0; i--) modify(modifiers[i & 127], whole);
                for (int i = 0; i < names; i++) {
                    int to = ALL + Math.min(all, MOST_ALL) * 3;
                    setName(to, word(i * 3), word(i * 3 + 1), word(i * 3 + 2));
                    all++;
                }
            }
        }

        /** The NAME within a SET gives the names; how many SETS there are around it (they go to modifiers). */
        private int innermost(int set, int whole) {
            int within = 0;
            int at = set;
            for (; within < MOST_SETS && isModified(at); within++) {
                modifiers[within & 127] = at;
                at = room.car(room.cdr(at));
            }
            if (!isName(at)) room.wrong(whole);
            names = 0;
            if (room.isNamed(room.car(at), "scheme")) {
                for (int i = 0; i < bases; i++) addName(baseNames[i & 511], 0, baseMeanings[i & 511]);
                return within;
            }
            int library = find(at);
            if (library == 0) room.wrong(whole);
            addExports(library);
            return within;
        }

        private void addExports(int library) {
            int rest = room.at(library + 2);
            for (int turn = 0; turn < Room.SIZE && Room.isPair(rest); rest = room.cdr(rest), turn++) {
                int part = room.car(rest);
                if (!room.isNamed(room.car(part), "export")) continue;
                for (int e = room.cdr(part), n = 0; n < Room.SIZE && Room.isPair(e); e = room.cdr(e), n++) {
                    int told = room.car(e);
                    boolean renamed = Room.isPair(told);
                    int inside = renamed ? room.car(room.cdr(told)) : told;
                    int outside = renamed ? room.car(room.cdr(room.cdr(told))) : told;
                    setName(names * 3, room.symbolOf(outside), library, room.symbolOf(inside));
                    names++;
                }
            }
        }

        private void addName(int name, int table, int what) {
            setName(names * 3, name, table, what);
            names++;
        }

        private boolean isModified(int set) {
            if (!Room.isPair(set) || !room.isList(set)) return false;
            int second = room.cdr(set);
            if (!Room.isPair(second) || !Room.isPair(room.car(second))) return false;
            int head = room.car(set);
            return room.isNamed(head, "only") || room.isNamed(head, "except") || room.isNamed(head, "prefix")
                || room.isNamed(head, "rename");
        }

        boolean isName(int v) {
            if (!Room.isPair(v) || !room.isList(v)) return false;
            for (int rest = v, turn = 0; turn < Room.SIZE && Room.isPair(rest); rest = room.cdr(rest), turn++) {
                int part = room.car(rest);
                boolean number = Room.kind(part) == Room.FIX && part > 0
                    || Room.kind(part) == Room.BIG && room.at(Room.index(part)) > 0;
                if (!number && !Room.isIdentifier(part)) return false;
            }
            return true;
        }

        private boolean sameName(int a, int b) {
            int x = a;
            int y = b;
            for (int n = 0; n < Room.SIZE && Room.isPair(x) && Room.isPair(y); n++) {
                int p = room.symbolOf(room.car(x));
                int q = room.symbolOf(room.car(y));
                boolean bigs = Room.kind(p) == Room.BIG && Room.kind(q) == Room.BIG;
                if (p != q && !(bigs && room.sameWords(Room.index(p), Room.index(q)))) return false;
                x = room.cdr(x);
                y = room.cdr(y);
            }
            return x == y;
        }

        private int find(int name) {
            int library = first;
            for (int n = 0; n < libraries && library != 0 && !sameName(room.at(library + 1), name); n++) {
                library = room.at(library + 3);
            }
            return library;
        }

        private void modify(int set, int whole) {
            int head = room.car(set);
            int rest = room.cdr(room.cdr(set));
            if (room.isNamed(head, "only")) keep(rest, true, whole);
            else if (room.isNamed(head, "except")) keep(rest, false, whole);
            else if (room.isNamed(head, "prefix")) prefix(rest, whole);
            else rename(rest, whole);
        }

        /** Each name's SYMBOL is marked with where it is. */
        private void markNames() {
            for (int i = 0; i < names; i++) room.put(Room.index(word(i * 3)) + Room.VARIABLE, i);
        }

        /** Where the IDENTIFIER's SYMBOL is among the names; what isn't there is wrong. */
        private int position(int id, int whole) {
            if (!Room.isIdentifier(id)) room.wrong(whole);
            int symbol = room.symbolOf(id);
            int i = room.at(Room.index(symbol) + Room.VARIABLE);
            if (i < 0 || i >= names || word(i * 3) != symbol) room.wrong(whole);
            return i;
        }

        /** Of the names those told are kept, or the others. */
        private void keep(int ids, boolean told, int whole) {
            int kept = 0;
            markNames();
            for (int i = 0; i < names; i++) setWord(OTHER + i, 0);
            for (int rest = ids, turn = 0; turn < Room.SIZE && Room.isPair(rest); rest = room.cdr(rest), turn++) {
                setWord(OTHER + position(room.car(rest), whole), 1);
            }
            for (int i = 0; i < names; i++) {
                if ((word(OTHER + i) == 1) == told) {
                    setName(kept * 3, word(i * 3), word(i * 3 + 1), word(i * 3 + 2));
                    kept++;
                }
            }
            names = kept;
        }

        private void prefix(int rest, int whole) {
            if (!Room.isPair(rest) || room.cdr(rest) != Room.NIL) room.wrong(whole);
            if (!Room.isIdentifier(room.car(rest))) room.wrong(whole);
            int prefix = room.symbolOf(room.car(rest));
            int n = room.symbolSize(prefix);
            for (int i = 0; i < names; i++) {
                int name = word(i * 3);
                int size = room.symbolSize(name);
                if (n + size > 40) room.wrong(whole);
                for (int j = 0; j < n; j++) room.sign[j & 63] = room.symbolSign(prefix, j);
                for (int j = 0; j < size; j++) room.sign[(n + j) & 63] = room.symbolSign(name, j);
                setWord(i * 3, room.intern(n + size));
                room.spend(room.fresh);
            }
        }

        private void rename(int pairs, int whole) {
            markNames();
            for (int i = 0; i < names; i++) setWord(OTHER + i, Room.NOTHING);
            for (int rest = pairs, turn = 0; turn < Room.SIZE && Room.isPair(rest); rest = room.cdr(rest), turn++) {
                int pair = room.car(rest);
                if (!room.isList(pair) || room.pairs(pair) != 2) room.wrong(whole);
                int i = position(room.car(pair), whole);
                int to = room.car(room.cdr(pair));
                if (word(OTHER + i) != Room.NOTHING || !Room.isIdentifier(to)) room.wrong(whole);
                setWord(OTHER + i, room.symbolOf(to));
            }
            for (int i = 0; i < names; i++) if (word(OTHER + i) != Room.NOTHING) setWord(i * 3, word(OTHER + i));
            markNames();
            for (int i = 0; i < names; i++) {
                if (room.at(Room.index(word(i * 3)) + Room.VARIABLE) != i) room.wrong(whole);
            }
        }

        private void bindAll(int table) {
            room.spend(all);
            for (int i = 0; i < all; i++) {
                int at = ALL + i * 3;
                int from = word(at + 1);
                int meaning = word(at + 2);
                if (from != 0) {
                    int b = binding(meaning, from);
                    meaning = b == 0 ? newPlace(meaning, from) : room.at(b + 1);
                }
                bind(word(at), table, meaning, true);
            }
        }

        // define-library

        /** A library that isn't among the others before its FORMS are done: its index. */
        int library(int form) {
            int rest = room.cdr(form);
            if (!Room.isPair(rest) || !isName(room.car(rest))) room.wrong(form);
            int name = room.car(rest);
            int declarations = room.cdr(rest);
            int exports = 0;
            for (int d = declarations, turn = 0; turn < Room.SIZE && Room.isPair(d); d = room.cdr(d), turn++) {
                int part = room.car(d);
                if (!Room.isPair(part) || !room.isList(part)) room.wrong(form);
                int head = room.car(part);
                if (room.isNamed(head, "import") || room.isNamed(head, "begin")) continue;
                if (!room.isNamed(head, "export")) room.wrong(form);
                for (int e = room.cdr(part), n = 0; n < Room.SIZE && Room.isPair(e); e = room.cdr(e), n++) {
                    lookAtExport(room.car(e), exports, form);
                    exports++;
                    if (exports > MOST_EXPORTS) room.wrong(form);
                }
            }
            if (libraries >= MOST_LIBRARIES && find(name) == 0) room.wrong(form);
            int table = room.record(4, 0, name, declarations, 0);
            all = 0;
            for (int d = declarations, turn = 0; turn < Room.SIZE && Room.isPair(d); d = room.cdr(d), turn++) {
                int part = room.car(d);
                if (room.isNamed(room.car(part), "import")) addSets(room.cdr(part), form);
            }
            bindAll(table);
            return table;
        }

        /** An export that so many are ahead of, whose names outside stand at OTHER, with their places as marks. */
        private void lookAtExport(int told, int exports, int form) {
            int inside = told;
            int outside = told;
            if (Room.isPair(told)) {
                boolean right = room.isList(told) && room.pairs(told) == 3 && room.isNamed(room.car(told), "rename");
                if (!right) room.wrong(form);
                inside = room.car(room.cdr(told));
                outside = room.car(room.cdr(room.cdr(told)));
            }
            if (!Room.isIdentifier(inside) || !Room.isIdentifier(outside)) room.wrong(form);
            int name = room.symbolOf(outside);
            int marked = room.at(Room.index(name) + Room.VARIABLE);
            if (marked >= 0 && marked < exports && word(OTHER + marked) == name) room.wrong(form);
            setWord(OTHER + exports, name);
            room.put(Room.index(name) + Room.VARIABLE, exports);
        }

        /** The library's FORMS are done: it takes the place of an old one of its NAME. */
        void install(int library) {
            int old = find(room.at(library + 1));
            if (old == 0) {
                libraries++;
            } else if (old == first) {
                first = room.at(old + 3);
            } else {
                int ahead = first;
                for (int n = 0; n < libraries && room.at(ahead + 3) != old; n++) ahead = room.at(ahead + 3);
                room.put(ahead + 3, room.at(old + 3));
            }
            room.put(library + 3, first);
            first = library;
        }
    }

    /**
     * MACROS: (environment, LITERALS, rules, own ELLIPSIS). Nested DATA are gone through by a stack of frames, ten
     * words each: what is gone through is a list (an object and -1) or a vector (an object and an index).
     */
    private static final class Rules {
        static final int SEQUENCE = 0, ROW = 1, BEGIN = 2;
        static final int BAD = -1, OPENED = -2;
        static final int UNPLAIN = 1 << Room.PAIR | 1 << Room.VECTOR | 1 << Room.SYMBOL | 1 << Room.ALIAS;
        static final int COUNTED = 1 << Room.STRING | 1 << Room.BYTES;
        static final int MOST_THINGS = 20000;
        static final int STACK = (1 << 14) - 1;
        static final int ROWS = (1 << 17) - 1;
        static final int NAMES = (1 << 17) - 1;
        static final int ROUNDS = (1 << 16) - 1;
        static final int KNOWN = (1 << 15) - 1;
        static final int FOUND = (1 << 15) - 1;
        static final long EVER = 1L << 60;

        private final Room room;
        private final Tables tables;
        private final int[] stack = new int[STACK + 1];
        private final int[] walk = new int[STACK + 1];
        private final int[] rows = new int[ROWS + 1];
        private final int[] variables = new int[NAMES + 1];
        private final int[] rounds = new int[ROUNDS + 1];
        private final int[] known = new int[KNOWN + 1];
        private final int[] found = new int[FOUND + 1];
        private final int dots;
        private final int underscore;
        private int top;
        private int walked;
        private int names;
        private int things;
        private int within;
        private int use;
        private int environment;
        private int macro;
        private int saved;
        private int stamp;
        private int base;
        private int mark;

        Rules(Room room, Tables tables) {
            this.room = room;
            this.tables = tables;
            dots = room.symbol("...");
            underscore = room.symbol("_");
        }

        // the parts of a MACRO at work

        /** The MACRO is at work: its LITERALS are marked. */
        private void workWith(int macro) {
            this.macro = macro;
            int rest = room.at(Room.index(macro) + 1);
            for (int n = 0; n < Room.SIZE && Room.isPair(rest); rest = room.cdr(rest), n++) {
                room.put(Room.index(room.car(rest)) + Room.LITERAL, macro);
            }
        }

        private boolean isLiteral(int id) {
            return room.words[(id >>> 6) + Room.LITERAL & (room.words.length - 1)] == macro;
        }

        private boolean isEllipsis(int v) {
            int kind = Room.kind(v);
            if (kind != Room.SYMBOL && kind != Room.ALIAS) return false;
            int own = room.at(Room.index(macro) + 3);
            return (own == Room.NIL ? room.symbolOf(v) == dots : v == own) && !isLiteral(v);
        }

        private boolean isEllipsisAt(int o, int i) {
            if (i < 0) return Room.isPair(o) && isEllipsis(room.car(o));
            return i < room.size(o) && isEllipsis(room.element(o, i));
        }

        /** Whether what is gone through has one more part. */
        private boolean hasPart(int o, int i) {
            return i < 0 ? Room.isPair(o) : i < room.size(o);
        }

        private int part(int o, int i) {
            return i < 0 ? room.car(o) : room.element(o, i);
        }

        private int behind(int o, int i) {
            return i < 0 ? room.cdr(o) : o;
        }

        private static int next(int i) {
            return i < 0 ? -1 : i + 1;
        }

        /** From i on the first element that is a pair, VECTOR or IDENTIFIER, or right ahead of one (of an ELLIPSIS). */
        private int behindPlain(int vector, int i) {
            int[] words = room.words;
            int mask = words.length - 1;
            int n = words[vector >>> 6 & mask];
            int base = words[(vector >>> 6) + 1 & mask];
            for (int at = i; at < n; at++) {
                int v = words[base + at & mask];
                if ((v & 1) == 0 && (UNPLAIN >> (v >> 1 & 31) & 1) != 0) return Math.max(i, at - 1);
            }
            return n;
        }

        /** How many elements from i and j on are the same ones, not counted as WORK and without an ELLIPSIS behind. */
        private int alike(int pattern, int i, int thing, int j) {
            int[] words = room.words;
            int mask = words.length - 1;
            int n = Math.min(behindPlain(pattern, i) - i, words[thing >>> 6 & mask] - j);
            int first = words[(pattern >>> 6) + 1 & mask] + i;
            int second = words[(thing >>> 6) + 1 & mask] + j;
            for (int k = 0; k < n; k++) {
                int v = words[first + k & mask];
                boolean counted = (v & 1) == 0 && (COUNTED >> (v >> 1 & 31) & 1) != 0;
                if (counted || v != words[second + k & mask]) return k;
            }
            return Math.max(n, 0);
        }

        // frames of the walk: what is gone through, and two numbers more

        private void walkInto(int o, int i, int a, int b) {
            int f = walked * 4;
            walk[f & STACK] = o;
            walk[(f + 1) & STACK] = i;
            walk[(f + 2) & STACK] = a;
            walk[(f + 3) & STACK] = b;
            walked++;
        }

        private int walking(int word) {
            return walk[(walked * 4 + word) & STACK];
        }

        /** Whether a datum is neither deeper nor of more pairs and VECTORS. */
        boolean fits(int datum, int deepest, int most) {
            int count = 0;
            walked = 0;
            walkInto(datum, -1, 0, 0);
            for (long turn = 0; turn < EVER && walked > 0; turn++) {
                walked--;
                int o = walking(0);
                int i = walking(1);
                int depth = walking(2);
                if (depth > deepest || count > most) return false;
                if (i >= 0) {
                    i = behindPlain(o, i);
                    if (i >= room.size(o)) continue;
                    walkInto(o, i + 1, depth, 0);
                    walkInto(room.element(o, i), -1, depth + 1, 0);
                } else if (Room.isPair(o)) {
                    count++;
                    walkInto(room.cdr(o), -1, depth, 0);
                    walkInto(room.car(o), -1, depth + 1, 0);
                } else if (Room.kind(o) == Room.VECTOR) {
                    count++;
                    if (depth == deepest && room.size(o) > 0) return false;
                    walkInto(o, 0, depth, 0);
                }
            }
            return count <= most;
        }

        // RULES that are bound

        /** The MACRO of RULES. */
        int bound(int told, int home) {
            if (!Room.isPair(told) || !room.isList(told) || !isRules(room.car(told), home)) room.wrong(told);
            int rest = room.cdr(told);
            int own = Room.NIL;
            if (Room.isPair(rest) && Room.isIdentifier(room.car(rest))) {
                own = room.car(rest);
                rest = room.cdr(rest);
            }
            if (!Room.isPair(rest) || !areIdentifiers(room.car(rest))) room.wrong(told);
            workWith(Room.value(Room.MACRO, room.record(4, home, room.car(rest), room.cdr(rest), own)));
            for (int r = room.cdr(rest), turn = 0; turn < Room.SIZE && Room.isPair(r); r = room.cdr(r), turn++) {
                int rule = room.car(r);
                if (!room.isList(rule) || room.pairs(rule) != 2) room.wrong(told);
                int pattern = room.car(rule);
                int template = room.car(room.cdr(rule));
                if (!Room.isPair(pattern)) room.wrong(told);
                if (!fits(room.cdr(pattern), 100, 5000) || !fits(template, 100, 5000)) room.wrong(told);
                if (!isPattern(room.cdr(pattern)) || !isTemplate(template)) room.wrong(told);
            }
            room.spend(3);
            return macro;
        }

        private boolean isRules(int head, int home) {
            return Room.isIdentifier(head)
                && tables.meaning(head, home) == Room.FIRST_CORE + (Expander.SYNTAX_RULES << 6);
        }

        private boolean areIdentifiers(int list) {
            if (!room.isList(list)) return false;
            for (int rest = list, turn = 0; turn < Room.SIZE && Room.isPair(rest); rest = room.cdr(rest), turn++) {
                if (!Room.isIdentifier(room.car(rest))) return false;
            }
            return true;
        }

        /** Each IDENTIFIER that gets something becomes a variable, with the number of ELLIPSES that it is under. */
        private boolean isPattern(int list) {
            names = 0;
            walked = 0;
            walkInto(list, -1, 0, 0);
            for (long turn = 0; turn < EVER && walked > 0; turn++) {
                walked--;
                int o = walking(0);
                int i = walking(1);
                int depth = walking(2);
                int seen = walking(3);
                if (i >= 0) i = behindPlain(o, i);
                if (!hasPart(o, i)) {
                    if (i < 0 && !isPart(o, depth)) return false;
                    continue;
                }
                int part = part(o, i);
                int restO = behind(o, i);
                int restI = next(i);
                boolean row = isEllipsisAt(restO, restI);
                if (isEllipsis(part) || row && seen == 1) return false;
                if (row) walkInto(behind(restO, restI), next(restI), depth, 1);
                else walkInto(restO, restI, depth, seen);
                if (!isPart(part, row ? depth + 1 : depth)) return false;
            }
            return true;
        }

        private boolean isPart(int p, int depth) {
            int kind = Room.kind(p);
            if (kind == Room.PAIR) {
                walkInto(p, -1, depth, 0);
            } else if (kind == Room.VECTOR) {
                walkInto(p, 0, depth, 0);
            } else if (Room.isIdentifier(p)) {
                if (isEllipsis(p)) return false;
                if (isLiteral(p) || room.symbolOf(p) == underscore) return true;
                if (variable(p) >= 0) return false;
                addVariable(p, depth);
            }
            return true;
        }

        /**
         * A variable: the IDENTIFIER (which has the variable's number as a mark), the ELLIPSES that it has (left), what
         * it has, the row that is open.
         */
        private void addVariable(int id, int depth) {
            room.put(Room.index(id) + Room.VARIABLE, names);
            variables[(names * 4) & NAMES] = id;
            variables[(names * 4 + 1) & NAMES] = depth;
            variables[(names * 4 + 2) & NAMES] = 0;
            variables[(names * 4 + 3) & NAMES] = 0;
            names++;
        }

        private int variable(int id) {
            int j = room.words[(id >>> 6) + Room.VARIABLE & (room.words.length - 1)];
            return j >= 0 && j < names && variables[(j * 4) & NAMES] == id ? j : -1;
        }

        private int variable(int j, int word) {
            return variables[(j * 4 + word) & NAMES];
        }

        private void setVariable(int j, int word, int to) {
            variables[(j * 4 + word) & NAMES] = to;
        }

        private boolean isTemplate(int template) {
            top = 0;
            boolean right = piece(template, 0, 0, 0) != BAD;
            for (long turn = 0; turn < EVER && right && top > 0; turn++) right = lookOn();
            return right;
        }

        /**
         * A piece of a template, under so many ELLIPSES, the last few of them right behind it: the most ELLIPSES that a
         * variable in it has; OPENED, if a frame was begun for it; BAD, if it isn't as it must be.
         */
        private int piece(int t, int depth, int escaped, int own) {
            int piece = t;
            int plain = escaped;
            if (plain == 0 && Room.isPair(piece) && isEllipsis(room.car(piece))) {
                int second = room.cdr(piece);
                if (!Room.isPair(second) || room.cdr(second) != Room.NIL) return BAD;
                piece = room.car(second);
                plain = 1;
            }
            int kind = Room.kind(piece);
            if (kind == Room.PAIR || kind == Room.VECTOR) {
                hold(piece, kind == Room.PAIR ? -1 : 0, depth, plain);
                setFrame(5, 0);
                setFrame(6, own);
                return OPENED;
            }
            int most = 0;
            if (Room.isIdentifier(piece)) {
                int j = variable(piece);
                if (j >= 0) most = variable(j, 1);
                else if (plain == 0 && isEllipsis(piece)) return BAD;
            }
            return most > depth || own > 0 && most < depth ? BAD : most;
        }

        /** A step through what is open: its next part, what stands behind its point, or its end. */
        private boolean lookOn() {
            int o = frame(1);
            int i = frame(2);
            int depth = frame(3);
            int escaped = frame(4);
            if (i >= 0) i = behindPlain(o, i);
            if (hasPart(o, i)) {
                int part = part(o, i);
                o = behind(o, i);
                i = next(i);
                int rows = 0;
                for (; rows < Room.SIZE && escaped == 0 && isEllipsisAt(o, i); rows++) {
                    o = behind(o, i);
                    i = next(i);
                }
                setFrame(1, o);
                setFrame(2, i);
                return isSeen(piece(part, depth + rows, escaped, rows));
            }
            if (i < 0 && o != Room.NIL) {
                setFrame(1, Room.NIL);
                return isSeen(piece(o, depth, escaped, 0));
            }
            int most = frame(5);
            if (frame(6) > 0 && most < depth) return false;
            top--;
            return isSeen(most);
        }

        /** Whether a piece is right; what it has counts in what is open around it. */
        private boolean isSeen(int most) {
            if (most == OPENED || top == 0) return true;
            setFrame(5, Math.max(frame(5), most));
            return most != BAD;
        }

        /** One step of a walk through a datum: the IDENTIFIER that was come to, or NOTHING. */
        private int nextIdentifier() {
            walked--;
            int o = walking(0);
            int i = walking(1);
            if (i >= 0) {
                i = behindPlain(o, i);
                if (i < room.size(o)) {
                    walkInto(o, i + 1, 0, 0);
                    walkInto(room.element(o, i), -1, 0, 0);
                }
            } else if (Room.isPair(o)) {
                walkInto(room.cdr(o), -1, 0, 0);
                walkInto(room.car(o), -1, 0, 0);
            } else if (Room.kind(o) == Room.VECTOR) {
                walkInto(o, 0, 0, 0);
            } else if (Room.isIdentifier(o)) {
                return o;
            }
            return Room.NOTHING;
        }

        // a use

        /** What the use of a MACRO becomes. */
        int used(int macro, int use, int environment) {
            workWith(macro);
            this.use = use;
            this.environment = environment;
            int rule = room.at(Room.index(macro) + 2);
            if (!Room.isPair(rule)) room.spend(1);
            for (int tried = 0; tried < Room.SIZE && Room.isPair(rule); rule = room.cdr(rule), tried++) {
                room.spend(1);
                int both = room.car(rule);
                top = 0;
                names = 0;
                things = 0;
                within = 0;
                rows[0] = 1;
                forgetParts();
                hold(room.cdr(room.car(both)), -1, room.cdr(use), -1);
                boolean fits = true;
                for (long turn = 0; turn < EVER && top > 0 && fits; turn++) {
                    if (frame(0) == BEGIN) fits = beginRow();
                    else fits = frame(0) == ROW ? goOver() : goOn();
                }
                if (fits) return build(room.car(room.cdr(both)), false);
            }
            room.wrong(use);
            return Room.NIL;
        }

        // parts under ELLIPSES that were walked through already: the part, when, two numbers. All that was known before
        // the base doesn't count.

        private void forgetParts() {
            stamp++;
            base = stamp;
            found[0] = 0;
        }

        private static int slot(int part) {
            return (part * 0x9e3779b1 >>> 19) * 4 & KNOWN;
        }

        private boolean isKnown(int part) {
            int slot = slot(part);
            return known[slot] == part && known[(slot + 1) & KNOWN] >= base;
        }

        private void know(int part, int a, int b) {
            int slot = slot(part);
            known[slot] = part;
            known[(slot + 1) & KNOWN] = stamp;
            known[(slot + 2) & KNOWN] = a;
            known[(slot + 3) & KNOWN] = b;
        }

        private int knows(int part, int word) {
            return known[(slot(part) + word) & KNOWN];
        }

        private int frame(int word) {
            return stack[(top * 10 - 10 + word) & STACK];
        }

        private void setFrame(int word, int to) {
            stack[(top * 10 - 10 + word) & STACK] = to;
        }

        /** A pattern and things are to be held against one another. */
        private void hold(int patternO, int patternI, int thingO, int thingI) {
            top++;
            setFrame(0, SEQUENCE);
            setFrame(1, patternO);
            setFrame(2, patternI);
            setFrame(3, thingO);
            setFrame(4, thingI);
        }

        /** A list or VECTOR is gone through up to a part that is one, too, or that an ELLIPSIS stands behind. */
        private boolean goOn() {
            int patternO = frame(1);
            int patternI = frame(2);
            int thingO = frame(3);
            int thingI = frame(4);
            top--;
            if (patternI >= 0) {
                int alike = alike(patternO, patternI, thingO, thingI);
                patternI += alike;
                thingI += alike;
            }
            for (int n = 0; n < Room.SIZE && hasPart(patternO, patternI); n++) {
                int part = part(patternO, patternI);
                patternO = behind(patternO, patternI);
                patternI = next(patternI);
                if (isEllipsisAt(patternO, patternI)) {
                    hold(behind(patternO, patternI), next(patternI), thingO, thingI);
                    setFrame(0, BEGIN);
                    setFrame(5, part);
                    return true;
                }
                if (!hasPart(thingO, thingI)) return false;
                int thing = part(thingO, thingI);
                thingO = behind(thingO, thingI);
                thingI = next(thingI);
                if (Room.isPair(part) || Room.kind(part) == Room.VECTOR) {
                    hold(patternO, patternI, thingO, thingI);
                    return isMatch(part, thing);
                }
                if (!isMatch(part, thing)) return false;
            }
            return patternI >= 0 ? !hasPart(thingO, thingI) : isMatch(patternO, thingO);
        }

        private boolean isMatch(int p, int x) {
            int kind = Room.kind(p);
            if (kind == Room.PAIR) {
                hold(p, -1, x, -1);
                return true;
            }
            if (kind == Room.VECTOR) {
                if (Room.kind(x) != Room.VECTOR) return false;
                hold(p, 0, x, 0);
                return true;
            }
            if (kind == Room.STRING || kind == Room.BYTES) {
                room.spend(1 + room.size(p) / 64);
                return Room.kind(x) == kind && room.sameWords(Room.index(p), Room.index(x));
            }
            if (!Room.isIdentifier(p)) return room.eqv(p, x);
            if (isLiteral(p)) {
                room.spend(1);
                return Room.isIdentifier(x) && tables.same(x, environment, p, room.at(Room.index(macro)));
            }
            if (room.symbolOf(p) == underscore) return true;
            get(p, x);
            return true;
        }

        private void countThing() {
            things++;
            if (things > MOST_THINGS) room.wrong(use);
        }

        private void get(int id, int x) {
            countThing();
            if (within == 0) {
                addVariable(id, 0);
                setVariable(names - 1, 2, x);
            } else {
                addItem(variable(variable(id), 3), x);
            }
        }

        /**
         * A row: the first item, the last, how many, the row that it is in. An item: what it is, the next. rows itself
         * begins with where there is room.
         */
        private int newRow(int around) {
            int row = rows[0];
            rows[0] = row + 4;
            rows[row & ROWS] = 0;
            rows[(row + 1) & ROWS] = 0;
            rows[(row + 2) & ROWS] = 0;
            rows[(row + 3) & ROWS] = around;
            return row;
        }

        private void addItem(int row, int x) {
            int item = rows[0];
            rows[0] = item + 2;
            rows[item & ROWS] = x;
            rows[(item + 1) & ROWS] = 0;
            int last = rows[(row + 1) & ROWS];
            if (last == 0) rows[row & ROWS] = item;
            else rows[(last + 1) & ROWS] = item;
            rows[(row + 1) & ROWS] = item;
            rows[(row + 2) & ROWS]++;
        }

        private int row(int row, int word) {
            return rows[(row + word) & ROWS];
        }

        /** An ELLIPSIS was come to: what it goes over, but for what the parts behind it need. */
        private boolean beginRow() {
            int restO = frame(1);
            int restI = frame(2);
            int thingO = frame(3);
            int thingI = frame(4);
            int part = frame(5);
            int behind = restI < 0 ? room.pairs(restO) : room.size(restO) - restI;
            int there = thingI < 0 ? room.pairs(thingO) : room.size(thingO) - thingI;
            if (there < behind) return false;
            room.spend(there - behind);
            if (within == 0 || !isKnown(part)) findSpan(part);
            int from = knows(part, 2);
            int to = knows(part, 3);
            for (int j = from; j < to; j++) {
                countThing();
                int around = variable(j, 3);
                int row = newRow(around);
                if (around == 0) setVariable(j, 2, row);
                else addItem(around, row);
                setVariable(j, 3, row);
            }
            within++;
            setFrame(0, ROW);
            setFrame(6, there - behind);
            setFrame(7, from);
            setFrame(8, to);
            return true;
        }

        /** From which variable to which a part under an ELLIPSIS has them; an outermost one's are made here. */
        private void findSpan(int part) {
            int from = within == 0 ? names : -1;
            int n = 0;
            walked = 0;
            walkInto(part, -1, 1, 0);
            for (long turn = 0; turn < EVER && walked > 0; turn++) {
                walked--;
                int depth = walking(2);
                int id = nextVariable(depth);
                if (id == Room.NOTHING) continue;
                if (within == 0) addVariable(id, depth);
                else if (from < 0) from = variable(id);
                n++;
            }
            from = Math.max(from, 0);
            know(part, from, from + n);
        }

        /** One step of a walk through a pattern, with the ELLIPSES that what is there is under. */
        private int nextVariable(int depth) {
            int o = walking(0);
            int i = walking(1);
            if (i < 0 && Room.kind(o) == Room.VECTOR) {
                walkInto(o, 0, depth, 0);
            } else if (i >= 0 || Room.isPair(o)) {
                if (i >= 0) i = behindPlain(o, i);
                if (!hasPart(o, i)) return Room.NOTHING;
                int restO = behind(o, i);
                int restI = next(i);
                boolean row = hasPart(restO, restI) && isEllipsis(part(restO, restI));
                if (row) walkInto(behind(restO, restI), next(restI), depth, 0);
                else walkInto(restO, restI, depth, 0);
                walkInto(part(o, i), -1, row ? depth + 1 : depth, 0);
            } else if (Room.isIdentifier(o) && !isLiteral(o) && room.symbolOf(o) != underscore) {
                return o;
            }
            return Room.NOTHING;
        }

        /** The ELLIPSIS goes over one thing more, or is through. */
        private boolean goOver() {
            int thingO = frame(3);
            int thingI = frame(4);
            if (frame(6) > 0) {
                countThing();
                setFrame(6, frame(6) - 1);
                setFrame(3, behind(thingO, thingI));
                setFrame(4, next(thingI));
                return isMatch(frame(5), part(thingO, thingI));
            }
            for (int j = frame(7); j < frame(8); j++) setVariable(j, 3, row(variable(j, 3), 3));
            within--;
            setFrame(0, SEQUENCE);
            return true;
        }

        // what becomes of it: frames of a list or vector that is made (what is left of the template, the first pair,
        // the last, whether ELLIPSES are none, whether the part behind the point is made), or of a row

        /** A template's datum made; or, when quoting, a copy without ALIASES. */
        int build(int template, boolean quoting) {
            if (quoting) macro = Room.NOTHING;
            top = 0;
            saved = 0;
            mark = room.top;
            forgetParts();
            int result = begun(template, quoting ? 1 : 0);
            for (long turn = 0; turn < EVER && top > 0; turn++) {
                int made = frame(0) == ROW ? goRound() : grow();
                if (top == 0) result = made;
                else if (made != Room.NOTHING) deliver(made);
            }
            return result;
        }

        /** A piece of a template: what it is made, or NOTHING if a frame was begun for it. */
        private int begun(int t, int escaped) {
            int piece = t;
            int plain = escaped;
            if (plain == 0 && Room.isPair(piece) && isEllipsis(room.car(piece))) {
                piece = room.car(room.cdr(piece));
                plain = 1;
            }
            int kind = Room.kind(piece);
            if (kind != Room.PAIR && kind != Room.VECTOR) return leaf(piece);
            hold(piece, kind == Room.PAIR ? -1 : 0, Room.NIL, Room.NIL);
            setFrame(5, plain);
            setFrame(6, 0);
            return Room.NOTHING;
        }

        /** What isn't a list or vector. An IDENTIFIER has its ALIAS as a mark, which holds as long as this use. */
        private int leaf(int t) {
            if (!Room.isIdentifier(t)) return t;
            if (macro == Room.NOTHING) return room.symbolOf(t);
            int j = variable(t);
            if (j >= 0) return variable(j, 2);
            int alias = room.at(Room.index(t) + Room.ALIASED);
            boolean own = Room.kind(alias) == Room.ALIAS && Room.index(alias) >= mark;
            if (own && room.at(Room.index(alias)) == t) return alias;
            room.spend(1);
            int i = room.make(7);
            room.put(i, t);
            room.put(i + 1, room.at(Room.index(macro)));
            room.put(i + 2, room.symbolOf(t));
            room.put(i + Room.VARIABLE, 0);
            room.put(i + Room.ALIASED, 0);
            room.put(i + Room.LITERAL, 0);
            room.put(i + Room.SCOPED, 0);
            alias = Room.value(Room.ALIAS, i);
            room.put(Room.index(t) + Room.ALIASED, alias);
            return alias;
        }

        /** A made piece goes to the list at work, which may have a row at work on it. */
        private void deliver(int v) {
            int f = top * 10 - 10;
            for (int n = 0; n < STACK && f > 0 && stack[f & STACK] == ROW; n++) f -= 10;
            int last = stack[(f + 4) & STACK];
            int added = v;
            if (stack[(f + 6) & STACK] == 1) {
                stack[(f + 1) & STACK] = Room.NIL;
                stack[(f + 6) & STACK] = 0;
            } else {
                room.spend(1);
                int i = room.make(2);
                room.put(i, v);
                room.put(i + 1, Room.NIL);
                added = Room.value(Room.PAIR, i);
            }
            if (last == Room.NIL) stack[(f + 3) & STACK] = added;
            else room.put(Room.index(last) + 1, added);
            stack[(f + 4) & STACK] = added;
        }

        private int grow() {
            int o = frame(1);
            int i = frame(2);
            int escaped = frame(5);
            if (!hasPart(o, i)) {
                int made = frame(3);
                if (i < 0 && o != Room.NIL) {
                    setFrame(6, 1);
                    return begun(o, escaped);
                }
                top--;
                return i < 0 ? made : vectorOf(made, o);
            }
            int part = part(o, i);
            o = behind(o, i);
            i = next(i);
            int rows = 0;
            for (; rows < Room.SIZE && escaped == 0 && isEllipsisAt(o, i); rows++) {
                o = behind(o, i);
                i = next(i);
            }
            setFrame(1, o);
            setFrame(2, i);
            if (rows == 0) return begun(part, escaped);
            if (!isKnown(part)) findVariables(part);
            beginRound(part, rows);
            return Room.NOTHING;
        }

        private int vectorOf(int list, int template) {
            int n = room.pairs(list);
            room.spend(1);
            int at = room.make(2 + n);
            room.put(at, n);
            room.put(at + 1, at + 2);
            int rest = list;
            for (int j = 0; j < n; j++) {
                room.put(at + 2 + j, room.car(rest));
                rest = room.cdr(rest);
            }
            return Room.value(Room.VECTOR, at);
        }

        /** The rows of all variables in a known part are gone over together: each is saved, with row and next item. */
        private void beginRound(int part, int rows) {
            int from = saved;
            int count = -1;
            int last = knows(part, 3);
            for (int k = knows(part, 2); k < last; k++) {
                int j = found[k & FOUND];
                if (variable(j, 1) == 0) continue;
                int row = variable(j, 2);
                if (count >= 0 && count != row(row, 2)) room.wrong(use);
                count = row(row, 2);
                rounds[(saved * 3) & ROUNDS] = j;
                rounds[(saved * 3 + 1) & ROUNDS] = row;
                rounds[(saved * 3 + 2) & ROUNDS] = row(row, 0);
                setVariable(j, 1, variable(j, 1) - 1);
                saved++;
            }
            hold(part, rows, from, saved);
            setFrame(0, ROW);
            setFrame(5, Math.max(0, count));
        }

        /** The variables in a part, each once, go behind those found in other parts. */
        private void findVariables(int part) {
            if (found[0] > FOUND - names - 1) forgetParts();
            int from = found[0] + 1;
            int to = from;
            stamp++;
            walked = 0;
            walkInto(part, -1, 0, 0);
            for (long turn = 0; turn < EVER && walked > 0; turn++) {
                int id = nextIdentifier();
                int j = id == Room.NOTHING ? -1 : variable(id);
                if (j < 0 || variable(j, 3) == stamp) continue;
                setVariable(j, 3, stamp);
                found[to & FOUND] = j;
                to++;
            }
            found[0] = to - 1;
            know(part, from, to);
        }

        /** One time more round a row, or through with it. */
        private int goRound() {
            int from = frame(3);
            int to = frame(4);
            boolean through = frame(5) == 0;
            for (int s = from; s < to; s++) {
                int j = rounds[(s * 3) & ROUNDS];
                int item = rounds[(s * 3 + 2) & ROUNDS];
                if (through) {
                    setVariable(j, 1, variable(j, 1) + 1);
                    setVariable(j, 2, rounds[(s * 3 + 1) & ROUNDS]);
                } else {
                    setVariable(j, 2, row(item, 0));
                    rounds[(s * 3 + 2) & ROUNDS] = row(item, 1);
                }
            }
            if (through) {
                saved = from;
                top--;
                return Room.NOTHING;
            }
            setFrame(5, frame(5) - 1);
            if (frame(2) == 1) return begun(frame(1), 0);
            if (!isKnown(frame(1))) findVariables(frame(1));
            beginRound(frame(1), frame(2) - 1);
            return Room.NOTHING;
        }
    }

    /**
     * Forms to codes, a form each step. A code is an index: what it is, then its parts. What is still to be expanded
     * waits in frames: parts in a row, a BODY's definitions, a BODY that is looked at, a let-syntax. Codes wait, too,
     * until the code that they are parts of is made: so WORK pays for all that is made.
     */
    private static final class Expander {
        static final int QUOTE = 0, IF = 1, SET = 2, LAMBDA = 3, BEGIN = 4, DEFINE = 5, DEFINE_SYNTAX = 6;
        static final int LET_SYNTAX = 7, LETREC_SYNTAX = 8, SYNTAX_ERROR = 9, DEFINE_LIBRARY = 10, IMPORT = 11;
        static final int SYNTAX_RULES = 12, NO_CORE = -1;

        static final int CONSTANT_CODE = 0, LOCAL_CODE = 1, GLOBAL_CODE = 2, LAMBDA_CODE = 3, IF_CODE = 4;
        static final int SET_LOCAL_CODE = 5, SET_GLOBAL_CODE = 6, SEQUENCE_CODE = 7, APPLICATION_CODE = 8;

        static final int TAKE = 0, SEE = 1, USE = 2, BIND = 3, COPY = 4, VALUE = 5, DONE = 6;
        static final int OUTER = 0, BODY = 1, EXPRESSION = 2, LET = 3;
        static final int PARTS = 0, DEFINITIONS = 1, LOOK = 2, LETS = 3;
        static final int DEEPEST = 250;
        static final int MOST_DATA = 20000;
        static final int INDEX = (1 << 14) - 1;
        static final int CODES = (1 << 16) - 1;

        int state;
        int form;
        int environment;
        int macro;
        int told;
        int act;
        int symbol;
        int message;
        private final Room room;
        private final Tables tables;
        private final Rules rules;
        private final int[] frames = new int[INDEX + 1];
        private final int[] codes = new int[CODES + 1];
        private int top;
        private int made;
        private int where;
        private int depth;

        Expander(Room room, Tables tables, Rules rules) {
            this.room = room;
            this.tables = tables;
            this.rules = rules;
            core("quote", QUOTE);
            core("if", IF);
            core("set!", SET);
            core("lambda", LAMBDA);
            core("begin", BEGIN);
            core("define", DEFINE);
            core("define-syntax", DEFINE_SYNTAX);
            core("let-syntax", LET_SYNTAX);
            core("letrec-syntax", LETREC_SYNTAX);
            core("syntax-error", SYNTAX_ERROR);
            core("define-library", DEFINE_LIBRARY);
            core("import", IMPORT);
            core("syntax-rules", SYNTAX_RULES);
        }

        private void core(String name, int word) {
            tables.bind(room.symbol(name), tables.house, Room.FIRST_CORE + (word << 6), false);
        }

        /** An outermost form is to be expanded. */
        void begin(int form, int table) {
            this.form = form;
            environment = table;
            where = OUTER;
            depth = 0;
            top = 0;
            made = 0;
            message = Room.NOTHING;
            act = NO_CORE;
            state = SEE;
        }

        /** The code of what was expanded. */
        int result() {
            return codes[0];
        }

        private void give(int code) {
            codes[made & CODES] = code;
            made++;
        }

        // frames, sixteen words each: the sort; the list that is left, where its forms stand, how deep; the code that
        // they are parts of if it is made (4), the form it is of (5), lists behind (6), what it is (13), the first of
        // its parts' codes (14), whether a BODY's lambda is let-syntax's (15)

        private int frame(int word) {
            return frames[(top * 16 - 16 + word) & INDEX];
        }

        private void setFrame(int word, int to) {
            frames[(top * 16 - 16 + word) & INDEX] = to;
        }

        private void push(int sort, int list, int environment, int depth, int code) {
            top++;
            setFrame(0, sort);
            setFrame(1, list);
            setFrame(2, environment);
            setFrame(3, depth);
            setFrame(4, code);
            setFrame(5, form);
            setFrame(6, 0);
            setFrame(14, made);
        }

        /** The form's parts in a list are to be expanded, each one deeper. */
        private void parts(int what, int list, int code) {
            push(PARTS, list, environment, depth + 1, code);
            setFrame(13, what);
        }

        /** What waits on top is gone on with. */
        void take() {
            if (top == 0) {
                state = DONE;
                return;
            }
            switch (frame(0)) {
                case LOOK: look(); break;
                case LETS: nextMacro(); break;
                default: nextPart();
            }
        }

        private void nextPart() {
            if (frame(0) == DEFINITIONS && frame(1) == Room.NIL) {
                setFrame(0, PARTS);
                setFrame(1, frame(8));
            }
            boolean definition = frame(0) == DEFINITIONS;
            if (!definition) listBehind();
            int list = frame(1);
            if (list == Room.NIL) {
                finish();
                return;
            }
            environment = frame(2);
            depth = frame(3);
            setFrame(1, room.cdr(list));
            form = room.car(list);
            where = EXPRESSION;
            state = definition ? VALUE : SEE;
        }

        /** A list that is through is left for those behind it. */
        private void listBehind() {
            int rest = frame(1);
            int behind = frame(6);
            for (int n = 0; n < Room.SIZE && rest == Room.NIL && behind != 0; n++) {
                rest = room.at(behind);
                behind = room.at(behind + 1);
            }
            setFrame(1, rest);
            setFrame(6, behind);
        }

        /** All parts are expanded: their codes become one. */
        private void finish() {
            int first = frame(14);
            int n = made - first;
            int code = frame(4);
            switch (frame(13)) {
                case IF_CODE:
                    for (int i = 0; i < n && i < 3; i++) room.put(code + 1 + i, codes[(first + i) & CODES]);
                    break;
                case SET_LOCAL_CODE:
                    room.put(code + 2, codes[first & CODES]);
                    break;
                case APPLICATION_CODE:
                    code = room.make(2 + n);
                    room.put(code, APPLICATION_CODE);
                    room.put(code + 1, n);
                    for (int i = 0; i < n; i++) room.put(code + 2 + i, codes[(first + i) & CODES]);
                    break;
                case LAMBDA_CODE:
                    int formals = room.at(code + 1) + room.at(code + 2);
                    room.put(code + 4, sequence(formals, frame(9), first, n));
                    if (frame(15) == 1) code = room.record(3, APPLICATION_CODE, 1, code, 0);
                    break;
                default: code = sequence(0, 0, first, n);
            }
            made = first;
            top--;
            give(code);
        }

        /** Codes one behind the other: one alone is itself. */
        private int sequence(int base, int definitions, int first, int n) {
            if (n == 1) return codes[first & CODES];
            int code = room.make(4 + n);
            room.put(code, SEQUENCE_CODE);
            room.put(code + 1, base);
            room.put(code + 2, definitions);
            room.put(code + 3, n);
            for (int i = 0; i < n; i++) room.put(code + 4 + i, codes[(first + i) & CODES]);
            return code;
        }

        /** The form there is seen: what it is, where it stands. */
        void see() {
            if (depth > DEEPEST) room.wrong(form);
            int kind = Room.kind(form);
            int meaning = Room.NOTHING;
            if (kind == Room.PAIR && Room.isIdentifier(room.car(form))) {
                meaning = tables.meaning(room.car(form), environment);
            }
            if (Room.kind(meaning) == Room.MACRO) {
                macro = meaning;
                state = USE;
                return;
            }
            int word = Room.isCore(meaning) ? (meaning - Room.FIRST_CORE) >> 6 : NO_CORE;
            boolean definition = word == DEFINE || word == DEFINE_SYNTAX || word == BEGIN;
            if (where == BODY && !definition) {
                firstExpression();
                return;
            }
            state = TAKE;
            room.spend(1);
            if (kind == Room.SYMBOL || kind == Room.ALIAS) {
                reference();
            } else if (kind != Room.PAIR) {
                if (form == Room.NIL) room.wrong(form);
                constant(form);
            } else {
                if (!room.isList(form)) room.wrong(form);
                if (where == BODY) inBody(word);
                else if (where == OUTER && (definition || word == IMPORT || word == DEFINE_LIBRARY)) outermost(word);
                else if (word == NO_CORE) parts(APPLICATION_CODE, form, 0);
                else core(word);
            }
        }

        /** What a use of a MACRO became. */
        void became(int form) {
            this.form = form;
            state = SEE;
        }

        private int second() {
            return room.car(room.cdr(form));
        }

        private int third() {
            return room.car(room.cdr(room.cdr(form)));
        }

        // EXPRESSIONS

        private void reference() {
            int name = room.symbolOf(form);
            int meaning = tables.meaning(form, environment);
            if (Room.kind(meaning) == Room.MACRO || Room.isCore(meaning)) room.wrong(form);
            if (meaning == Room.NOTHING) meaning = tables.newPlace(tables.lastSymbol, tables.lastTable);
            if (Room.kind(meaning) == Room.SLOT) give(room.record(3, LOCAL_CODE, place(meaning), name, 0));
            else give(room.record(3, GLOBAL_CODE, Room.index(meaning), name, 0));
        }

        /** How many frames up a SLOT is, and where in that one. */
        private int place(int slot) {
            int up = tables.levelOf(environment) - tables.level;
            return up << 16 | room.at(Room.index(slot) + 1) >> 1;
        }

        /** A datum that stands for itself or is quoted: a copy of it is to be made. */
        private void constant(int datum) {
            if (!rules.fits(datum, DEEPEST, MOST_DATA)) room.wrong(form);
            told = datum;
            state = COPY;
        }

        void copied(int datum) {
            give(room.record(2, CONSTANT_CODE, datum, 0, 0));
            state = TAKE;
        }

        private void core(int word) {
            int parts = room.pairs(form);
            switch (word) {
                case QUOTE:
                    if (parts != 2) room.wrong(form);
                    constant(second());
                    break;
                case IF:
                    if (parts != 3 && parts != 4) room.wrong(form);
                    parts(IF_CODE, room.cdr(form), room.record(4, IF_CODE, 0, 0, 0));
                    break;
                case SET:
                    if (parts != 3 || !Room.isIdentifier(second())) room.wrong(form);
                    assignment();
                    break;
                case LAMBDA:
                    if (parts < 3) room.wrong(form);
                    room.spend(2);
                    lambda(second(), room.cdr(room.cdr(form)), false);
                    break;
                case BEGIN:
                    if (parts < 2) room.wrong(form);
                    parts(SEQUENCE_CODE, room.cdr(form), 0);
                    break;
                case LET_SYNTAX:
                case LETREC_SYNTAX:
                    if (parts < 3 || !room.isList(second())) room.wrong(form);
                    int scope = room.record(3, environment, 0, tables.levelOf(environment), 0);
                    push(LETS, second(), word == LET_SYNTAX ? environment : scope, depth, 0);
                    setFrame(10, scope);
                    break;
                case SYNTAX_ERROR:
                    if (parts >= 2 && Room.kind(second()) == Room.STRING) message = second();
                    room.wrong(form);
                    break;
                default: room.wrong(form);
            }
        }

        private void assignment() {
            int id = second();
            int meaning = tables.meaning(id, environment);
            if (Room.kind(meaning) == Room.MACRO || Room.isCore(meaning)) room.wrong(form);
            if (meaning == Room.NOTHING) meaning = tables.newPlace(tables.lastSymbol, tables.lastTable);
            boolean local = Room.kind(meaning) == Room.SLOT;
            int code = room.record(4, local ? SET_LOCAL_CODE : SET_GLOBAL_CODE,
                local ? place(meaning) : Room.index(meaning), 0, room.symbolOf(id));
            parts(SET_LOCAL_CODE, room.cdr(room.cdr(form)), code);
        }

        // lambda: its FORMALS are a scope, its BODY another one in the same frame

        /** A lambda that the form at hand has or is, at the depth at hand. */
        private void lambda(int formals, int body, boolean isLet) {
            int code = room.make(5);
            room.put(code, LAMBDA_CODE);
            int scope = formals == Room.NIL ? 0 : room.record(3, environment, 0, 0, 0);
            int rest = formals;
            int n = 0;
            for (int turn = 0; turn < Room.SIZE && Room.isPair(rest); rest = room.cdr(rest), turn++) {
                formal(scope, room.car(rest), n);
                n++;
            }
            if (rest != Room.NIL) formal(scope, rest, n);
            room.put(code + 1, n);
            room.put(code + 2, rest == Room.NIL ? 0 : 1);
            push(LOOK, body, scope == 0 ? environment : scope, depth + 1, code);
            setFrame(13, LAMBDA_CODE);
            setFrame(15, isLet ? 1 : 0);
            setFrame(7, Room.NIL);
            setFrame(8, Room.NIL);
            setFrame(9, 0);
            setFrame(10, 0);
            setFrame(11, scope);
            setFrame(12, tables.levelOf(environment));
        }

        private void formal(int scope, int id, int n) {
            if (!Room.isIdentifier(id) || tables.isBoundIn(scope, id)) room.wrong(form);
            room.spend(1);
            tables.bindIn(scope, id, Room.fix(n));
        }

        // a BODY is looked at: the forms left, those behind a begin (6), definitions (7, the last 8, how many 9), the
        // BODY's own scope (10), that of the FORMALS (11), the level around (12); the form that it belongs to (5)

        private void look() {
            listBehind();
            int rest = frame(1);
            if (rest == Room.NIL) room.wrong(frame(5));
            setFrame(1, room.cdr(rest));
            environment = frame(2);
            depth = frame(3);
            form = room.car(rest);
            where = BODY;
            state = SEE;
        }

        private void inBody(int word) {
            if (word == BEGIN) {
                setFrame(6, room.record(2, frame(1), frame(6), 0, 0));
                setFrame(1, room.cdr(form));
                return;
            }
            int id = word == DEFINE ? defined() : keyword();
            if (tables.isBoundIn(frame(10), id)) room.wrong(frame(5));
            room.spend(1);
            if (frame(10) == 0) {
                setFrame(10, room.record(3, frame(2), 0, 0, 0));
                setFrame(2, frame(10));
            }
            if (word == DEFINE_SYNTAX) {
                told = third();
                environment = frame(10);
                state = BIND;
                return;
            }
            int code = frame(4);
            int n = room.at(code + 1) + room.at(code + 2) + frame(9);
            tables.bindIn(frame(10), id, Room.fix(n));
            int pair = room.cons(form, Room.NIL);
            if (frame(9) == 0) setFrame(7, pair);
            else room.put(Room.index(frame(8)) + 1, pair);
            setFrame(8, pair);
            setFrame(9, frame(9) + 1);
        }

        /** The IDENTIFIER that a define is for. */
        private int defined() {
            int parts = room.pairs(form);
            if (parts < 2) room.wrong(form);
            int id = second();
            if (Room.isPair(id)) id = room.car(id);
            else if (parts != 3) room.wrong(form);
            if (!Room.isIdentifier(id)) room.wrong(form);
            return id;
        }

        private int keyword() {
            if (room.pairs(form) != 3 || !Room.isIdentifier(second())) room.wrong(form);
            return second();
        }

        /** The first EXPRESSION of a BODY was come to: all definitions were looked at. */
        private void firstExpression() {
            int code = frame(4);
            int definitions = frame(9);
            int formals = room.at(code + 1) + room.at(code + 2);
            int level = frame(12) + (formals + definitions > 0 ? 1 : 0);
            if (frame(10) != 0) room.put(frame(10) + 2, level);
            if (frame(11) != 0) room.put(frame(11) + 2, level);
            room.put(code + 3, formals + definitions);
            setFrame(8, room.cons(form, frame(1)));
            setFrame(0, DEFINITIONS);
            setFrame(1, frame(7));
            state = TAKE;
        }

        /** What a define gives its IDENTIFIER is expanded next, one deeper than the define. */
        void value() {
            int define = form;
            where = EXPRESSION;
            if (!Room.isPair(second())) {
                depth++;
                form = third();
                state = SEE;
                return;
            }
            state = TAKE;
            depth++;
            if (depth > DEEPEST) room.wrong(define);
            room.spend(1);
            if (room.pairs(define) < 3) room.wrong(define);
            room.spend(2);
            lambda(room.cdr(second()), room.cdr(room.cdr(define)), false);
        }

        // let-syntax

        private void nextMacro() {
            int rest = frame(1);
            form = frame(5);
            if (Room.isPair(rest)) {
                int both = room.car(rest);
                boolean right = room.isList(both) && room.pairs(both) == 2 && Room.isIdentifier(room.car(both));
                if (!right) room.wrong(form);
                room.spend(1);
                told = room.car(room.cdr(both));
                environment = frame(2);
                where = LET;
                state = BIND;
                return;
            }
            environment = frame(10);
            depth = frame(3) + 1;
            top--;
            if (depth > DEEPEST) room.wrong(form);
            room.spend(4);
            lambda(Room.NIL, room.cdr(room.cdr(form)), true);
        }

        /** RULES that were to be bound are a MACRO now. */
        void bound(int macro) {
            state = TAKE;
            if (where == LET) {
                int rest = frame(1);
                tables.bindIn(frame(10), room.car(room.car(rest)), macro);
                setFrame(1, room.cdr(rest));
            } else if (where == BODY) {
                tables.bindIn(frame(10), second(), macro);
            } else {
                tables.bind(symbol, environment, macro, false);
            }
        }

        // outermost

        private void outermost(int word) {
            act = word;
            state = DONE;
            switch (word) {
                case DEFINE:
                    symbol = room.symbolOf(defined());
                    state = VALUE;
                    break;
                case DEFINE_SYNTAX:
                    symbol = room.symbolOf(keyword());
                    told = third();
                    state = BIND;
                    break;
                case DEFINE_LIBRARY:
                    if (environment != tables.house) room.wrong(form);
                    break;
                default:
            }
        }
    }

    /** The PROCEDURES that aren't about numbers: each group is a method, which answers NOTHING for a condition. */
    private static final class Procedures {
        static final int MANY = 100000;
        static final int MOST_SIZE = 10000;
        static final int MOST_COMPARED = 10000;
        static final int FARTHEST = 300000;
        static final int HUGE = 1 << 30;

        private final Room room;
        private final Numbers numbers;
        private final Numerals numerals;
        private final Scribe scribe;
        private final Reader reader;
        private final int[] least = new int[512];
        private final int[] most = new int[512];
        private int from;
        private int to;
        private int stacked;

        Procedures(Room room, Numbers numbers, Numerals numerals, Scribe scribe, Reader reader) {
            this.room = room;
            this.numbers = numbers;
            this.numerals = numerals;
            this.scribe = scribe;
            this.reader = reader;
            for (int i = 0; i < PROCEDURES.length; i++) {
                String letters = PROCEDURES[i].operands;
                boolean optional = false;
                for (int j = 0; j < letters.length(); j++) {
                    char c = letters.charAt(j);
                    if (c == '[') {
                        optional = true;
                    } else if (c == '*') {
                        most[i & 511] = MANY;
                        least[i & 511]--;
                    } else {
                        most[i & 511]++;
                        if (!optional) least[i & 511]++;
                    }
                }
            }
        }

        boolean takes(int number, int n) {
            return n >= least[number & 511] && n <= most[number & 511];
        }

        /** The first operand from the left that isn't what the procedure takes, 0 if there is none. */
        int unfit(Proc p, int n) {
            String letters = p.operands;
            int at = 0;
            for (int i = 1; i <= n && at < letters.length(); i++) {
                if (letters.charAt(at) == '[' && at + 1 < letters.length()) at++;
                if (!isOne(letters.charAt(at), room.arg(i))) return i;
                if (at + 1 >= letters.length() || letters.charAt(at + 1) != '*') at++;
            }
            return 0;
        }

        private boolean isOne(char letter, int v) {
            int kind = Room.kind(v);
            switch (letter) {
                case 'n': return Numbers.isNumber(v);
                case 'i': return numbers.isInteger(v);
                case 'k': return kind == Room.FIX && v > 0 || kind == Room.BIG && room.size(v) > 0;
                case 'p': return kind == Room.PAIR;
                case 'l': return room.isList(v);
                case 's': return kind == Room.STRING;
                case 'c': return Room.isChar(v);
                case 'v': return kind == Room.VECTOR;
                case 'b': return kind == Room.BYTES;
                case 'y': return kind == Room.SYMBOL;
                case 'f': return kind == Room.PROC;
                case 'e': return kind == Room.ERROR;
                case 't': return kind == Room.TYPE;
                case 'm': return kind == Room.PROC && room.size(v) == Room.PARAMETER;
                default: return true;
            }
        }

        int type(int operand) {
            return room.failWith(Room.IS_TYPE, operand);
        }

        private int range(int operand) {
            return room.failWith(Room.IS_RANGE, operand);
        }

        private int limit() {
            return room.failNamed(Room.IS_LIMIT);
        }

        /** An exact integer from 0 on, as far as it can matter. */
        private int small(int k) {
            return Room.kind(k) == Room.FIX ? k >> 1 : HUGE;
        }

        // truth, symbols, ERROR OBJECTS

        int basic(Proc p, int n) {
            int a = room.arg(1);
            switch (p) {
                case EQV:
                case EQ: return Room.truth(room.eqv(a, room.arg(2)));
                case EQUAL: return equal(a, room.arg(2));
                case NOT: return Room.truth(a == Room.FALSE);
                case IS_BOOLEAN: return Room.truth(isBoolean(a));
                case SAME_BOOLEANS: return Room.truth(isBoolean(a) && areSame(n));
                case IS_SYMBOL: return Room.truth(Room.kind(a) == Room.SYMBOL);
                case SAME_SYMBOLS: return Room.truth(areSame(n));
                case SYMBOL_STRING: return symbolString(a);
                case STRING_SYMBOL: return stringSymbol(a);
                case IS_PROCEDURE: return Room.truth(Room.kind(a) == Room.PROC);
                case IS_ERROR: return Room.truth(Room.kind(a) == Room.ERROR);
                case ERROR_MESSAGE: return room.at(Room.index(a));
                case ERROR_IRRITANTS: return room.at(Room.index(a) + 1);
                case IS_EOF: return Room.truth(a == Room.END);
                default: return Room.END;
            }
        }

        private boolean isBoolean(int v) {
            return v == Room.TRUE || v == Room.FALSE;
        }

        private boolean areSame(int n) {
            for (int i = 2; i <= n; i++) if (room.arg(i) != room.arg(1)) return false;
            return true;
        }

        private int symbolString(int symbol) {
            int n = room.symbolSize(symbol);
            int s = room.row(Room.STRING, n);
            for (int i = 0; i < n; i++) room.setItem(s, i, room.symbolSign(symbol, i));
            return s;
        }

        private int stringSymbol(int s) {
            int n = room.size(s);
            if (n > 40) return range(s);
            for (int i = 0; i < n; i++) room.sign[i & 63] = room.item(s, i);
            int symbol = room.intern(n);
            room.spend(room.fresh);
            return symbol;
        }

        private void stack(int a, int b, int i) {
            room.scratch[stacked & Scribe.STACK] = a;
            room.scratch[(stacked + 1) & Scribe.STACK] = b;
            room.scratch[(stacked + 2) & Scribe.STACK] = i;
            stacked += 3;
        }

        /** What is still to be compared is stacked: two objects and -1, or two vectors and how far they are. */
        private int equal(int first, int second) {
            int count = 0;
            stacked = 0;
            stack(first, second, -1);
            for (int turn = 0; turn < Room.SIZE && stacked > 0; turn++) {
                stacked -= 3;
                int a = room.scratch[stacked & Scribe.STACK];
                int b = room.scratch[(stacked + 1) & Scribe.STACK];
                int i = room.scratch[(stacked + 2) & Scribe.STACK];
                if (i >= 0) {
                    if (i >= room.size(a)) continue;
                    stack(a, b, i + 1);
                    a = room.element(a, i);
                    b = room.element(b, i);
                }
                count++;
                if (count > MOST_COMPARED) return limit();
                if (room.eqv(a, b)) continue;
                int kind = Room.kind(a);
                if (kind != Room.kind(b)) return Room.FALSE;
                if (kind == Room.PAIR) {
                    stack(room.cdr(a), room.cdr(b), -1);
                    stack(room.car(a), room.car(b), -1);
                    continue;
                }
                boolean row = kind == Room.STRING || kind == Room.BYTES;
                if (!row && kind != Room.VECTOR || room.size(a) != room.size(b)) return Room.FALSE;
                if (row) {
                    count += room.size(a) / 64;
                    if (count > MOST_COMPARED) return limit();
                    if (!room.sameWords(Room.index(a), Room.index(b))) return Room.FALSE;
                } else {
                    stack(a, b, 0);
                }
            }
            return Room.TRUE;
        }

        // texts of numbers

        int numeral(Proc p, int n) {
            int a = room.arg(1);
            int radix = n == 2 ? small(room.arg(2)) : 10;
            boolean right = radix == 2 || radix == 8 || radix == 10 || radix == 16;
            if (!right || p == Proc.NUMBER_STRING && radix != 10 && Room.kind(a) == Room.FLO) return range(room.arg(2));
            if (p == Proc.NUMBER_STRING) {
                int size = numerals.text(a, radix);
                int s = room.row(Room.STRING, size);
                for (int i = 0; i < size; i++) room.setItem(s, i, numerals.signs[i & Numerals.INDEX]);
                return s;
            }
            int size = room.size(a);
            if (size > Numerals.MOST_SIGNS) return Room.FALSE;
            for (int i = 0; i < size; i++) numerals.setSign(i, room.item(a, i));
            if (!numerals.scan(size, radix)) return Room.FALSE;
            int v = numerals.finish();
            if (v == Room.TOO_BIG) return limit();
            room.spend(numerals.units(v));
            return v;
        }

        // pairs and lists

        /** car, cdr and those of several letters. */
        int within(Proc p) {
            int v = room.arg(1);
            for (int i = p.text.length() - 2; i > 0; i--) {
                if (!Room.isPair(v)) return type(room.arg(1));
                v = p.text.charAt(i) == 'a' ? room.car(v) : room.cdr(v);
            }
            return v;
        }

        int lists(Proc p, int n) {
            int a = room.arg(1);
            int b = room.arg(2);
            switch (p) {
                case IS_PAIR: return Room.truth(Room.isPair(a));
                case IS_NULL: return Room.truth(a == Room.NIL);
                case IS_LIST: return Room.truth(room.isList(a));
                case CONS: return room.pair(a, b);
                case SET_CAR:
                case SET_CDR:
                    room.put(Room.index(a) + (p == Proc.SET_CAR ? 0 : 1), b);
                    return Room.UNSPECIFIED;
                case MAKE_LIST:
                    if (small(a) > MOST_SIZE) return range(a);
                    return filled(small(a), n == 2 ? b : Room.UNSPECIFIED);
                case LIST: return listed(n);
                case LENGTH: return Room.fix(room.pairs(a));
                case APPEND: return appended(n);
                case REVERSE: return reversed(a);
                case LIST_TAIL:
                case LIST_REF:
                case LIST_SET: return far(p, a, b);
                case MEMQ:
                case MEMV: return member(a, b);
                case ASSQ:
                case ASSV: return associated(a, b);
                case LIST_COPY: return room.pairs(a) < 0 ? type(a) : copied(a);
                case ALL_PAIRS: return Room.truth(areAllPairs(a));
                default: return areAllPairs(a) ? parts(p, a) : type(a);
            }
        }

        private int filled(int n, int v) {
            int list = Room.NIL;
            for (int i = 0; i < n; i++) list = room.pair(v, list);
            return list;
        }

        private int listed(int n) {
            int list = Room.NIL;
            for (int i = n; i > 0; i--) list = room.pair(room.arg(i), list);
            return list;
        }

        private int reversed(int list) {
            int turned = Room.NIL;
            for (int rest = list, turn = 0; turn < Room.SIZE && Room.isPair(rest); rest = room.cdr(rest), turn++) {
                turned = room.pair(room.car(rest), turned);
            }
            return turned;
        }

        private int appended(int n) {
            for (int i = 1; i < n; i++) if (!room.isList(room.arg(i))) return type(room.arg(i));
            int all = room.arg(n);
            for (int i = n - 1; i > 0; i--) {
                int copy = copied(room.arg(i));
                if (copy == Room.NIL) continue;
                int last = copy;
                for (int turn = 0; turn < Room.SIZE && Room.isPair(room.cdr(last)); turn++) last = room.cdr(last);
                room.put(Room.index(last) + 1, all);
                all = copy;
            }
            return all;
        }

        /** The pairs up to something else made anew. */
        private int copied(int list) {
            int first = list;
            int last = Room.NIL;
            for (int rest = list, turn = 0; turn < Room.SIZE && Room.isPair(rest); rest = room.cdr(rest), turn++) {
                int pair = room.pair(room.car(rest), room.cdr(rest));
                if (last == Room.NIL) first = pair;
                else room.put(Room.index(last) + 1, pair);
                last = pair;
            }
            return first;
        }

        private int far(Proc p, int list, int k) {
            int n = small(k);
            if (n > FARTHEST) return range(k);
            int rest = list;
            for (int i = 0; i < n; i++) {
                if (!Room.isPair(rest)) return range(k);
                rest = room.cdr(rest);
            }
            if (p == Proc.LIST_TAIL) return rest;
            if (!Room.isPair(rest)) return range(k);
            if (p == Proc.LIST_REF) return room.car(rest);
            room.put(Room.index(rest), room.arg(3));
            return Room.UNSPECIFIED;
        }

        private int member(int v, int list) {
            int rest = list;
            for (int n = 0; n < Room.SIZE && Room.isPair(rest) && !room.eqv(v, room.car(rest)); n++) {
                rest = room.cdr(rest);
            }
            return rest == Room.NIL ? Room.FALSE : rest;
        }

        private int associated(int v, int list) {
            for (int rest = list, turn = 0; turn < Room.SIZE && Room.isPair(rest); rest = room.cdr(rest), turn++) {
                int pair = room.car(rest);
                if (!Room.isPair(pair)) return type(list);
                if (room.eqv(v, room.car(pair))) return pair;
            }
            return Room.FALSE;
        }

        private boolean areAllPairs(int list) {
            int rest = list;
            for (int n = 0; n < Room.SIZE && Room.isPair(rest) && Room.isPair(room.car(rest)); n++) {
                rest = room.cdr(rest);
            }
            return rest == Room.NIL;
        }

        private int parts(Proc p, int list) {
            int first = Room.NIL;
            int last = Room.NIL;
            for (int rest = list, turn = 0; turn < Room.SIZE && Room.isPair(rest); rest = room.cdr(rest), turn++) {
                int pair = room.car(rest);
                pair = room.pair(p == Proc.CARS ? room.car(pair) : room.cdr(pair), Room.NIL);
                if (last == Room.NIL) first = pair;
                else room.put(Room.index(last) + 1, pair);
                last = pair;
            }
            return first;
        }

        // characters, and strings compared

        private static int up(int c) {
            return c >= 'a' && c <= 'z' ? c - 32 : c;
        }

        private static int down(int c) {
            return c >= 'A' && c <= 'Z' ? c + 32 : c;
        }

        int characters(Proc p, int n) {
            int a = room.arg(1);
            int c = Room.isChar(a) ? Room.code(a) : -1;
            switch (p) {
                case IS_CHAR: return Room.truth(c >= 0);
                case IS_ALPHABETIC: return Room.truth(up(c) != c || down(c) != c);
                case IS_NUMERIC: return Room.truth(c >= '0' && c <= '9');
                case IS_WHITE: return Room.truth(c >= 9 && c <= 13 || c == 32);
                case IS_UPPER: return Room.truth(down(c) != c);
                case IS_LOWER: return Room.truth(up(c) != c);
                case DIGIT_VALUE: return c >= '0' && c <= '9' ? Room.fix(c - '0') : Room.FALSE;
                case CHAR_INTEGER: return Room.fix(c);
                case INTEGER_CHAR: return small(a) > 127 ? range(a) : Room.character(small(a));
                case CHAR_UP: return Room.character(up(c));
                case CHAR_DOWN: return Room.character(down(c));
                default: return Room.truth(inOrder(p, n));
            }
        }

        private boolean inOrder(Proc p, int n) {
            for (int i = 2; i <= n; i++) {
                int a = room.arg(i - 1);
                int b = room.arg(i);
                int order = Room.isChar(a) ? Integer.compare(a, b) : compare(a, b, p == Proc.STRING_SAME_CASELESS);
                boolean holds;
                switch (p) {
                    case CHAR_LESS:
                    case STRING_LESS: holds = order < 0; break;
                    case CHAR_MORE:
                    case STRING_MORE: holds = order > 0; break;
                    case CHAR_NOT_MORE:
                    case STRING_NOT_MORE: holds = order <= 0; break;
                    case CHAR_NOT_LESS:
                    case STRING_NOT_LESS: holds = order >= 0; break;
                    default: holds = order == 0;
                }
                if (!holds) return false;
            }
            return true;
        }

        private int compare(int a, int b, boolean caseless) {
            int n = Math.min(room.size(a), room.size(b));
            for (int i = 0; i < n; i++) {
                int c = room.item(a, i);
                int d = room.item(b, i);
                int order = caseless ? down(c) - down(d) : c - d;
                if (order != 0) return order;
            }
            return Integer.compare(room.size(a), room.size(b));
        }

        // strings, vectors, bytevectors

        private int get(int row, int i) {
            int kind = Room.kind(row);
            if (kind == Room.VECTOR) return room.element(row, i);
            return kind == Room.STRING ? Room.character(room.item(row, i)) : Room.fix(room.item(row, i));
        }

        private void set(int row, int i, int v) {
            int kind = Room.kind(row);
            if (kind == Room.VECTOR) room.setElement(row, i, v);
            else room.setItem(row, i, kind == Room.STRING ? Room.code(v) : v >> 1);
        }

        private int made(int kind, int n) {
            return kind == Room.VECTOR ? room.vector(n) : room.row(kind, n);
        }

        /** The optional operands from the one at i on are a start and an end: whether they are in the range. */
        private boolean isSpan(int i, int n, int size) {
            from = n >= i ? small(room.arg(i)) : 0;
            to = n > i ? small(room.arg(i + 1)) : size;
            if (from > size) range(room.arg(i));
            else if (to < from || to > size) range(room.arg(i + 1));
            return room.fault == 0;
        }

        int rows(Proc p, int n) {
            int a = room.arg(1);
            switch (p) {
                case IS_STRING: return Room.truth(Room.kind(a) == Room.STRING);
                case IS_VECTOR: return Room.truth(Room.kind(a) == Room.VECTOR);
                case IS_BYTES: return Room.truth(Room.kind(a) == Room.BYTES);
                case MAKE_STRING: return make(Room.STRING, n == 2 ? room.arg(2) : Room.character(' '));
                case MAKE_VECTOR: return make(Room.VECTOR, n == 2 ? room.arg(2) : Room.UNSPECIFIED);
                case MAKE_BYTES: return make(Room.BYTES, n == 2 ? room.arg(2) : Room.fix(0));
                case STRING: return gathered(Room.STRING, n);
                case VECTOR: return gathered(Room.VECTOR, n);
                case BYTES: return gathered(Room.BYTES, n);
                case STRING_LENGTH:
                case VECTOR_LENGTH:
                case BYTES_LENGTH: return Room.fix(room.size(a));
                case STRING_REF:
                case VECTOR_REF:
                case BYTES_REF:
                    if (small(room.arg(2)) >= room.size(a)) return range(room.arg(2));
                    return get(a, small(room.arg(2)));
                case STRING_SET:
                case VECTOR_SET:
                case BYTES_SET: return put(a);
                case STRING_APPEND: return joined(Room.STRING, n);
                case VECTOR_APPEND: return joined(Room.VECTOR, n);
                case BYTES_APPEND: return joined(Room.BYTES, n);
                case STRING_UP:
                case STRING_DOWN: return cased(a, p == Proc.STRING_UP);
                case LIST_STRING: return ofList(Room.STRING, a);
                case LIST_VECTOR: return ofList(Room.VECTOR, a);
                case STRING_COPY_TO:
                case VECTOR_COPY_TO:
                case BYTES_COPY_TO: return copyTo(n);
                case STRING_FILL:
                case VECTOR_FILL: return fill(n);
                default: return span(p, n);
            }
        }

        private boolean isFit(int kind, int v) {
            if (kind == Room.STRING) return Room.isChar(v);
            return kind != Room.BYTES || small(v) < 256;
        }

        private int make(int kind, int v) {
            int n = small(room.arg(1));
            if (n > MOST_SIZE) return range(room.arg(1));
            if (!isFit(kind, v)) return range(v);
            int row = made(kind, n);
            for (int i = 0; i < n; i++) set(row, i, v);
            return row;
        }

        private int gathered(int kind, int n) {
            for (int i = 1; i <= n; i++) if (!isFit(kind, room.arg(i))) return range(room.arg(i));
            int row = made(kind, n);
            for (int i = 0; i < n; i++) set(row, i, room.arg(i + 1));
            return row;
        }

        private int put(int row) {
            int i = small(room.arg(2));
            int v = room.arg(3);
            if (i >= room.size(row)) return range(room.arg(2));
            if (!isFit(Room.kind(row), v)) return range(v);
            set(row, i, v);
            return Room.UNSPECIFIED;
        }

        private int joined(int kind, int n) {
            int size = 0;
            for (int i = 1; i <= n; i++) size = Math.min(Room.SIZE, size + room.size(room.arg(i)));
            int row = made(kind, size);
            int at = 0;
            for (int i = 1; i <= n; i++) {
                int part = room.arg(i);
                for (int j = 0; j < room.size(part); j++) set(row, at + j, get(part, j));
                at += room.size(part);
            }
            return row;
        }

        private int cased(int s, boolean up) {
            int n = room.size(s);
            int row = room.row(Room.STRING, n);
            for (int i = 0; i < n; i++) room.setItem(row, i, up ? up(room.item(s, i)) : down(room.item(s, i)));
            return row;
        }

        private int ofList(int kind, int list) {
            int n = 0;
            for (int rest = list, turn = 0; turn < Room.SIZE && Room.isPair(rest); rest = room.cdr(rest), turn++) {
                if (!isFit(kind, room.car(rest))) return type(list);
                n++;
            }
            int row = made(kind, n);
            int i = 0;
            for (int rest = list, turn = 0; turn < Room.SIZE && Room.isPair(rest); rest = room.cdr(rest), turn++) {
                set(row, i, room.car(rest));
                i++;
            }
            return row;
        }

        private int copyTo(int n) {
            int target = room.arg(1);
            int at = small(room.arg(2));
            int source = room.arg(3);
            if (at > room.size(target)) return range(room.arg(2));
            if (!isSpan(4, n, room.size(source))) return Room.NOTHING;
            if (to - from > room.size(target) - at) return range(room.arg(2));
            int size = to - from;
            for (int i = 0; i < size; i++) {
                int j = at > from ? size - 1 - i : i;
                set(target, at + j, get(source, from + j));
            }
            return Room.UNSPECIFIED;
        }

        private int fill(int n) {
            int row = room.arg(1);
            if (!isSpan(3, n, room.size(row))) return Room.NOTHING;
            for (int i = from; i < to; i++) set(row, i, room.arg(2));
            return Room.UNSPECIFIED;
        }

        /** A part of a row, as one of the same or of another sort. */
        private int span(Proc p, int n) {
            int row = room.arg(1);
            if (!isSpan(2, n, room.size(row))) return Room.NOTHING;
            switch (p) {
                case STRING_LIST:
                case VECTOR_LIST:
                    int list = Room.NIL;
                    for (int i = to - 1; i >= from; i--) list = room.pair(get(row, i), list);
                    return list;
                case STRING_VECTOR: return turned(row, Room.VECTOR);
                case STRING_BYTES: return turned(row, Room.BYTES);
                case VECTOR_STRING:
                    for (int i = from; i < to; i++) if (!Room.isChar(get(row, i))) return type(row);
                    return turned(row, Room.STRING);
                case BYTES_STRING:
                    for (int i = from; i < to; i++) if (room.item(row, i) > 127) return range(row);
                    return turned(row, Room.STRING);
                default: return turned(row, Room.kind(row));
            }
        }

        private int turned(int row, int kind) {
            int made = made(kind, to - from);
            boolean vectors = Room.kind(row) == Room.VECTOR || kind == Room.VECTOR;
            for (int i = from; i < to; i++) {
                if (vectors) set(made, i - from, get(row, i));
                else room.setItem(made, i - from, room.item(row, i));
            }
            return made;
        }

        // what is written and read

        int talk(Proc p, int n) {
            int a = room.arg(1);
            int c = reader.peek(0);
            switch (p) {
                case NEWLINE:
                    scribe.sign(10);
                    return Room.UNSPECIFIED;
                case WRITE_CHAR:
                    scribe.sign(Room.code(a));
                    return Room.UNSPECIFIED;
                case WRITE_STRING:
                    if (!isSpan(2, n, room.size(a))) return Room.NOTHING;
                    scribe.span(a, from, to);
                    return Room.UNSPECIFIED;
                case PEEK_CHAR: return c < 0 ? Room.END : Room.character(c);
                case READ_CHAR:
                    reader.pass(1);
                    return c < 0 ? Room.END : Room.character(c);
                case READ_LINE: return c < 0 ? Room.END : line();
                default: {
                    int k = small(a);
                    if (k > MOST_SIZE) return range(a);
                    return k > 0 && c < 0 ? Room.END : taken(Math.min(k, reader.inputLeft()));
                }
            }
        }

        /** A line ends, as in the report, with 10, 13, or 13 and 10. */
        private int line() {
            int size = 0;
            while (size < TAPE && reader.peek(size) >= 0 && reader.peek(size) != 10 && reader.peek(size) != 13) size++;
            int line = taken(size);
            reader.pass(reader.peek(0) == 13 && reader.peek(1) == 10 ? 2 : 1);
            return line;
        }

        private int taken(int n) {
            int s = room.row(Room.STRING, n);
            for (int i = 0; i < n; i++) room.setItem(s, i, reader.peek(i));
            reader.pass(n);
            return s;
        }

        // the house's own procedures

        int own(Proc p, int n) {
            int a = room.arg(1);
            int b = room.arg(2);
            switch (p) {
                case CASE_LAMBDA: return cases(n);
                case MAKE_ERROR:
                    room.spend(1);
                    return Room.value(Room.ERROR, room.record(2, a, b, 0, 0));
                case MAKE_PARAMETER:
                    room.spend(1);
                    return room.procedure(Room.PARAMETER, a, b, 0);
                case CONVERTER: return room.at(Room.index(a) + 2);
                case TYPE: return recordType(b);
                case CONSTRUCTOR: return maker(a, b);
                case PREDICATE:
                    room.spend(1);
                    return room.procedure(Room.ASKER, a, 0, 0);
                default: {
                    int field = field(a, b);
                    if (field < 0) return range(b);
                    room.spend(1);
                    return room.procedure(p == Proc.ACCESSOR ? Room.GETTER : Room.SETTER, a, field, 0);
                }
            }
        }

        private int cases(int n) {
            room.spend(1);
            int at = room.make(2 + n);
            int kept = 0;
            for (int i = 1; i <= n; i++) {
                int f = room.arg(i);
                if (room.size(f) != Room.CLOSURE) continue;
                room.put(at + 2 + kept, f);
                kept++;
            }
            room.put(at, Room.CASES);
            room.put(at + 1, kept);
            return Room.value(Room.PROC, at);
        }

        private int recordType(int names) {
            int n = room.pairs(names);
            room.spend(1 + n);
            int at = room.make(1 + n);
            room.put(at, n);
            int rest = names;
            for (int i = 0; i < n; i++) {
                room.put(at + 1 + i, room.car(rest));
                rest = room.cdr(rest);
            }
            return Room.value(Room.TYPE, at);
        }

        private int field(int type, int name) {
            int n = room.size(type);
            int i = 0;
            while (i < n && !room.eqv(room.item(type, i), name)) i++;
            return i < n ? i : -1;
        }

        private int maker(int type, int names) {
            int n = room.pairs(names);
            for (int rest = names, turn = 0; turn < Room.SIZE && Room.isPair(rest); rest = room.cdr(rest), turn++) {
                if (field(type, room.car(rest)) < 0) return range(names);
            }
            room.spend(1 + n);
            int at = room.make(3 + n);
            room.put(at, Room.MAKER);
            room.put(at + 1, type);
            room.put(at + 2, n);
            int rest = names;
            for (int i = 0; i < n; i++) {
                room.put(at + 3 + i, field(type, room.car(rest)));
                rest = room.cdr(rest);
            }
            return Room.value(Room.PROC, at);
        }
    }

    /** Does the turns: reads, expands, evaluates, writes, each a step at a time. */
    private static final class Machine {
        static final int READING = 0, NEXT = 1, EXPAND = 2, COMPUTE = 3, GIVE = 4, APPLY = 5, CALL = 6, RAISE = 7;
        static final int INPUT = 8, WRITE = 9, RESULT = 10, FINISH = 11, ENDED = 12;
        static final int IF_FRAME = 0, SET_FRAME = 1, SEQUENCE_FRAME = 2, APPLICATION_FRAME = 3, WITH_FRAME = 4;
        static final int VALUES_FRAME = 5, DEFINE_FRAME = 6;
        static final int FORMS = 0, LIBRARY = 1;
        static final int REFUSED = -1;
        static final int TURNS = 100000000;

        int done;
        int ended;
        private int mode;
        private final Room room;
        private final Tables tables;
        private final Expander expander;
        private final Rules rules;
        private final Procedures procedures;
        private final Reader reader;
        private int raiser;
        private int winds;
        private int code;
        private int environment;
        private int value;
        private int operands;
        private Proc proc = Proc.NOT;
        private int serial;
        private int agenda;
        private int table;
        private int at;
        private int last;

        Machine(Expander expander, Procedures procedures) {
            this.room = expander.room;
            this.tables = expander.tables;
            this.expander = expander;
            this.rules = expander.rules;
            this.procedures = procedures;
            this.reader = procedures.reader;
        }

        /** The PROCEDURES are put into the house's table, ahead of the PRELUDE. */
        void found() {
            for (int i = 0; i < PROCEDURES.length; i++) {
                int name = room.symbol(PROCEDURES[i].text);
                room.names[i & 511] = name;
                tables.define(name, tables.house, room.procedure(Room.PRIMITIVE, i, 0, 0));
            }
            room.symbol("accessor");
            room.symbol("modifier");
        }

        /** The PRELUDE was evaluated: what it made is what the house has at first. */
        void keep() {
            raiser = room.at(Room.index(tables.meaning(room.symbol("raise"), tables.house)));
            winds = tables.meaning(room.symbol("%winds"), tables.house);
            tables.keepBase();
            room.keep();
        }

        void begin(byte[] text, int size) {
            procedures.scribe.clear();
            room.work = 0;
            room.fault = 0;
            done = 0;
            ended = 0;
            agenda = 0;
            at = 0;
            last = Room.NOTHING;
            table = tables.house;
            reader.begin(text, size);
            mode = READING;
        }

        /** Nothing was evaluated yet. */
        void clear() {
            procedures.scribe.clear();
            room.work = 0;
            done = 0;
        }

        boolean isAtWork() {
            return mode != ENDED;
        }

        /** A DATUM is WRONG, or a form. */
        void stumble() {
            if (mode == READING) {
                reader.forget();
                ended = -1 - reader.place;
                mode = ENDED;
            } else if (mode == INPUT) {
                reader.endInput(false);
                room.fail(Room.IS_READ, Room.NIL);
                mode = RAISE;
            } else {
                room.fail(Room.IS_SYNTAX, Room.NIL);
                mode = RAISE;
            }
        }

        void limit() {
            ended = 2;
            mode = FINISH;
        }

        /** The RESULT is to be written. */
        private void finish() {
            mode = ENDED;
            if (last == Room.NOTHING) return;
            procedures.scribe.begin(last, false, true);
            mode = RESULT;
        }

        void run() {
            for (int turn = 0; turn < TURNS && mode != ENDED; turn++) {
                switch (mode) {
                    case READING:
                        reader.step();
                        if (reader.done) haveReadAll();
                        break;
                    case NEXT: next(); break;
                    case EXPAND:
                        switch (expander.state) {
                            case Expander.SEE: expander.see(); break;
                            case Expander.TAKE: expander.take(); break;
                            case Expander.VALUE: expander.value(); break;
                            case Expander.USE:
                                expander.became(rules.used(expander.macro, expander.form, expander.environment));
                                break;
                            case Expander.BIND: expander.bound(rules.bound(expander.told, expander.environment)); break;
                            case Expander.COPY: expander.copied(rules.build(expander.told, true)); break;
                            default:
                                if (expander.act == Expander.DEFINE_LIBRARY) library(tables.library(expander.form));
                                else if (expander.act == Expander.IMPORT) tables.importForm(expander.form, table);
                                act();
                        }
                        break;
                    case COMPUTE: compute(); break;
                    case GIVE: give(); break;
                    case APPLY: apply(); break;
                    case CALL:
                        int unfit = procedures.unfit(proc, operands);
                        switch (unfit > 0 ? REFUSED : proc.group) {
                            case REFUSED: answer(procedures.type(room.arg(unfit))); break;
                            case 0: answer(procedures.basic(proc, operands)); break;
                            case 1: answer(procedures.numbers.ask(proc, operands)); break;
                            case 2: answer(procedures.numbers.reckon(proc, operands)); break;
                            case 3: answer(procedures.numbers.part(proc)); break;
                            case 4: answer(procedures.numeral(proc, operands)); break;
                            case 5: answer(procedures.within(proc)); break;
                            case 6: answer(procedures.lists(proc, operands)); break;
                            case 7: answer(procedures.characters(proc, operands)); break;
                            case 11: answer(procedures.talk(proc, operands)); break;
                            case 12: answer(procedures.own(proc, operands)); break;
                            case 13: control(); break;
                            default: answer(procedures.rows(proc, operands));
                        }
                        break;
                    case RAISE: raise(); break;
                    case FINISH: finish(); break;
                    case INPUT:
                        reader.step();
                        if (reader.done) haveRead();
                        break;
                    default:
                        procedures.scribe.step();
                        if (procedures.scribe.done) haveWritten();
                }
            }
        }

        private void answer(int v) {
            value = v;
            mode = v == Room.NOTHING ? RAISE : GIVE;
        }

        private void haveReadAll() {
            mode = NEXT;
            room.spend(reader.tally);
        }

        private void haveRead() {
            reader.endInput(true);
            room.spend(reader.tally);
            value = reader.datum;
            mode = GIVE;
        }

        private void haveWritten() {
            value = Room.UNSPECIFIED;
            mode = mode == RESULT ? ENDED : GIVE;
        }

        // outermost forms

        /** The next outermost form: of a begin, a library, or the text. */
        private void next() {
            if (agenda == 0) {
                if (at > 0) {
                    done++;
                    last = value;
                }
                if (at >= reader.count) {
                    mode = FINISH;
                    return;
                }
                int form = reader.forms[at & Reader.INDEX];
                at++;
                start(form, tables.house);
                return;
            }
            if (room.at(agenda) == LIBRARY) {
                nextOfLibrary();
                return;
            }
            int list = room.at(agenda + 1);
            if (!Room.isPair(list)) {
                dropAgenda(4);
            } else {
                room.put(agenda + 1, room.cdr(list));
                start(room.car(list), room.at(agenda + 2));
            }
        }

        /** The next one of a library's FORMS; behind the last one the library is there. */
        private void nextOfLibrary() {
            int library = room.at(agenda + 1);
            int rest = room.at(agenda + 2);
            int forms = room.at(agenda + 4);
            for (int n = 0; n < Room.SIZE && !Room.isPair(forms) && Room.isPair(rest); rest = room.cdr(rest), n++) {
                int part = room.car(rest);
                if (room.isNamed(room.car(part), "begin")) forms = room.cdr(part);
            }
            if (Room.isPair(forms)) {
                room.put(agenda + 2, rest);
                room.put(agenda + 4, room.cdr(forms));
                start(room.car(forms), library);
            } else {
                tables.install(library);
                value = Room.UNSPECIFIED;
                dropAgenda(5);
            }
        }

        /** The newest entry of so many words is through; its words are free again if nothing was made behind them. */
        private void dropAgenda(int words) {
            int entry = agenda;
            agenda = room.at(entry + 3);
            if (entry + words == room.top) room.top = entry;
        }

        private void start(int form, int table) {
            this.table = table;
            room.handlers = Room.NIL;
            room.parameters = Room.NIL;
            if (winds != Room.NOTHING) room.put(Room.index(winds), Room.NIL);
            room.frame = 0;
            room.frameTop = Room.FIRST_FRAME;
            room.frozen = Room.FIRST_FRAME;
            serial++;
            environment = 0;
            expander.begin(form, table);
            mode = EXPAND;
        }

        /** The outermost form is expanded. */
        private void act() {
            value = Room.UNSPECIFIED;
            mode = NEXT;
            switch (expander.act) {
                case Expander.DEFINE_SYNTAX:
                case Expander.IMPORT:
                case Expander.DEFINE_LIBRARY: break;
                case Expander.BEGIN:
                    agenda = room.record(4, FORMS, room.cdr(expander.form), table, agenda);
                    break;
                case Expander.DEFINE:
                    room.spend(1);
                    room.pushFrame(DEFINE_FRAME, expander.symbol, table, 0, 0);
                    code = expander.result();
                    mode = COMPUTE;
                    break;
                default:
                    code = expander.result();
                    mode = COMPUTE;
            }
        }

        private void library(int library) {
            int entry = room.make(5);
            room.put(entry, LIBRARY);
            room.put(entry + 1, library);
            room.put(entry + 2, room.cdr(room.cdr(expander.form)));
            room.put(entry + 3, agenda);
            room.put(entry + 4, Room.NIL);
            agenda = entry;
        }

        // codes

        /** A code's value if it has one at once, else NOTHING. */
        private int quick(int code) {
            switch (room.at(code)) {
                case Expander.CONSTANT_CODE: return room.at(code + 1);
                case Expander.LOCAL_CODE: {
                    int v = room.at(frameOf(room.at(code + 1)) + 1 + (room.at(code + 1) & 0xffff));
                    return v == Room.UNASSIGNED ? Room.NOTHING : v;
                }
                case Expander.GLOBAL_CODE: {
                    int v = room.at(room.at(code + 1));
                    return v == Room.UNASSIGNED ? Room.NOTHING : v;
                }
                case Expander.LAMBDA_CODE:
                    room.spend(2);
                    return room.procedure(Room.CLOSURE, code, environment, 0);
                default: return Room.NOTHING;
            }
        }

        private int frameOf(int place) {
            int frame = environment;
            for (int up = place >> 16; up > 0; up--) frame = room.at(frame);
            return frame;
        }

        private void compute() {
            int sort = room.at(code);
            int v = quick(code);
            if (v != Room.NOTHING) {
                value = v;
                mode = GIVE;
                return;
            }
            switch (sort) {
                case Expander.LOCAL_CODE:
                case Expander.GLOBAL_CODE:
                    room.fail(sort == Expander.LOCAL_CODE ? Room.IS_UNASSIGNED : Room.IS_UNBOUND,
                        room.pair(room.at(code + 2), Room.NIL));
                    mode = RAISE;
                    break;
                case Expander.IF_CODE:
                    room.spend(1);
                    v = quick(room.at(code + 1));
                    if (v != Room.NOTHING) {
                        branch(v);
                    } else {
                        room.pushFrame(IF_FRAME, code, environment, 0, 0);
                        code = room.at(code + 1);
                    }
                    break;
                case Expander.SET_LOCAL_CODE:
                case Expander.SET_GLOBAL_CODE:
                    room.spend(1);
                    room.pushFrame(SET_FRAME, code, environment, 0, 0);
                    code = room.at(code + 2);
                    break;
                case Expander.SEQUENCE_CODE:
                    room.spend(1 + room.at(code + 2));
                    goThrough(0);
                    break;
                default:
                    room.spend(1);
                    parts(0, 0, 0);
            }
        }

        private void branch(int v) {
            code = room.at(code + (v == Room.FALSE ? 3 : 2));
            mode = COMPUTE;
            if (code == 0) {
                value = Room.UNSPECIFIED;
                mode = GIVE;
            }
        }

        /** The part of the sequence at code is begun; all but the last come back. */
        private void goThrough(int i) {
            int sequence = code;
            if (i < room.at(sequence + 2)) room.spend(1);
            if (i + 1 < room.at(sequence + 3)) room.pushFrame(SEQUENCE_FRAME, sequence, environment, i, 0);
            code = room.at(sequence + 4 + i);
            mode = COMPUTE;
        }

        /**
         * The application at code from its part i on. Values from the one numbered held on stand in args; those ahead
         * of it wait.
         */
        private void parts(int first, int held, int waiting) {
            int n = room.at(code + 1);
            int values = waiting;
            for (int i = first; i < n; i++) {
                int part = room.at(code + 2 + i);
                int v = quick(part);
                if (v == Room.NOTHING) {
                    for (int j = held; j < i; j++) values = room.pushValue(room.arg(j), values);
                    room.pushFrame(APPLICATION_FRAME, code, environment, i, values);
                    code = part;
                    mode = COMPUTE;
                    return;
                }
                room.spend(1);
                room.setArg(i, v);
            }
            for (int j = held - 1; j >= 0; j--) {
                room.setArg(j, room.frameWord(values));
                room.frameTop = Math.max(room.frozen, values);
                values = room.frameWord(values + 1);
            }
            operands = n - 1;
            mode = APPLY;
        }

        /** The value goes to what waits for it. */
        private void give() {
            if (room.frame == 0) {
                mode = NEXT;
                return;
            }
            int f = room.popFrame();
            int a = room.frameWord(f + 2);
            int b = room.frameWord(f + 3);
            int i = room.frameWord(f + 4);
            int d = room.frameWord(f + 5);
            switch (room.frameWord(f)) {
                case IF_FRAME:
                    code = a;
                    environment = b;
                    branch(value);
                    break;
                case SET_FRAME:
                    code = a;
                    environment = b;
                    assign();
                    break;
                case SEQUENCE_FRAME:
                    code = a;
                    environment = b;
                    if (i < room.at(code + 2)) room.put(environment + 1 + room.at(code + 1) + i, value);
                    goThrough(i + 1);
                    break;
                case APPLICATION_FRAME:
                    code = a;
                    environment = b;
                    room.spend(1);
                    room.setArg(i, value);
                    parts(i + 1, i, d);
                    break;
                case WITH_FRAME:
                    room.handlers = a;
                    room.parameters = b;
                    break;
                case VALUES_FRAME:
                    consume(a);
                    break;
                default:
                    tables.define(a, b, value);
                    value = Room.UNSPECIFIED;
            }
        }

        private void assign() {
            int place = room.at(code + 1);
            mode = GIVE;
            if (room.at(code) == Expander.SET_LOCAL_CODE) {
                room.put(frameOf(place) + 1 + (place & 0xffff), value);
            } else if (room.at(place) != Room.UNASSIGNED) {
                room.put(place, value);
            } else {
                room.fail(Room.IS_UNBOUND, room.pair(room.at(code + 3), Room.NIL));
                mode = RAISE;
            }
            value = Room.UNSPECIFIED;
        }

        /** The VALUES there go to a procedure. */
        private void consume(int f) {
            boolean several = Room.kind(value) == Room.VALUES;
            int n = several ? room.size(value) : 1;
            room.spend(1 + n);
            room.setArg(0, f);
            for (int i = 0; i < n; i++) room.setArg(i + 1, several ? room.item(value, i) : value);
            operands = n;
            mode = APPLY;
        }

        // procedures

        private void apply() {
            int f = room.arg(0);
            if (Room.kind(f) != Room.PROC) {
                room.fail(Room.IS_CALL, room.pair(f, Room.NIL));
                mode = RAISE;
                return;
            }
            int i = Room.index(f);
            int a = room.at(i + 1);
            boolean right = true;
            switch (room.at(i)) {
                case Room.PRIMITIVE: right = primitive(a); break;
                case Room.CLOSURE: right = enter(a, room.at(i + 2)); break;
                case Room.CONTINUATION: goOnWith(i); break;
                case Room.PARAMETER: right = operands == 0; if (right) value = parameter(f, a); break;
                case Room.CASES: right = choose(i + 2, a); break;
                case Room.MAKER: right = operands == room.at(i + 2); if (right) makeRecord(i); break;
                case Room.ASKER: right = operands == 1; value = Room.truth(isRecord(room.arg(1), a)); break;
                default: right = operands == (room.at(i) == Room.GETTER ? 1 : 2); if (right) field(i);
            }
            if (right) return;
            room.fail(Room.IS_ARITY, room.pair(f, Room.NIL));
            mode = RAISE;
        }

        private boolean primitive(int number) {
            if (number < 0 || number >= PROCEDURES.length) return false;
            proc = PROCEDURES[number];
            room.called = number;
            if (!procedures.takes(number, operands)) return false;
            mode = CALL;
            return true;
        }

        /** A lambda's BODY is begun in a new frame. */
        private boolean enter(int lambda, int around) {
            int needed = room.at(lambda + 1);
            boolean more = room.at(lambda + 2) == 1;
            int slots = room.at(lambda + 3);
            if (operands < needed || operands > needed && !more) return false;
            environment = around;
            if (slots > 0) {
                int frame = room.make(1 + slots);
                room.put(frame, around);
                for (int i = 0; i < slots; i++) room.put(frame + 1 + i, i < needed ? room.arg(i + 1) : Room.UNASSIGNED);
                if (more) room.put(frame + 1 + needed, rest(needed));
                environment = frame;
            }
            code = room.at(lambda + 4);
            mode = COMPUTE;
            return true;
        }

        private int rest(int behind) {
            int list = Room.NIL;
            for (int i = operands; i > behind; i--) list = room.pair(room.arg(i), list);
            return list;
        }

        private int values(int n) {
            room.spend(1 + n);
            int at = room.make(1 + n);
            room.put(at, n);
            for (int i = 0; i < n; i++) room.put(at + 1 + i, room.arg(i + 1));
            return Room.value(Room.VALUES, at);
        }

        private void goOnWith(int continuation) {
            if (room.at(continuation + 4) != serial) {
                room.fail(Room.IS_DEAD, Room.NIL);
                mode = RAISE;
                return;
            }
            value = operands == 1 ? room.arg(1) : values(operands);
            room.frame = room.at(continuation + 1);
            room.frameTop = room.frozen;
            room.handlers = room.at(continuation + 2);
            room.parameters = room.at(continuation + 3);
            mode = GIVE;
        }

        private int parameter(int parameter, int value) {
            mode = GIVE;
            int rest = room.parameters;
            for (int n = 0; n < Room.SIZE && Room.isPair(rest); n++) {
                int pair = room.car(rest);
                if (Room.isPair(pair) && room.car(pair) == parameter) return room.cdr(pair);
                rest = room.cdr(rest);
            }
            return value;
        }

        /** The first lambda that takes so many operands is applied. */
        private boolean choose(int cases, int n) {
            for (int i = 0; i < n; i++) {
                int f = room.at(cases + i);
                int lambda = room.at(Room.index(f) + 1);
                int needed = room.at(lambda + 1);
                if (operands == needed || operands > needed && room.at(lambda + 2) == 1) {
                    room.spend(1 + operands);
                    room.setArg(0, f);
                    return true;
                }
            }
            return false;
        }

        private void makeRecord(int maker) {
            int type = room.at(maker + 1);
            int n = room.size(type);
            room.spend(1 + n);
            int at = room.make(1 + n);
            room.put(at, type);
            for (int i = 0; i < n; i++) room.put(at + 1 + i, Room.UNSPECIFIED);
            for (int i = 0; i < operands; i++) room.put(at + 1 + room.at(maker + 3 + i), room.arg(i + 1));
            value = Room.value(Room.RECORD, at);
            mode = GIVE;
        }

        private boolean isRecord(int v, int type) {
            mode = GIVE;
            return Room.kind(v) == Room.RECORD && room.size(v) == type;
        }

        private void field(int procedure) {
            boolean getter = room.at(procedure) == Room.GETTER;
            int record = room.arg(1);
            if (!isRecord(record, room.at(procedure + 1))) {
                int list = room.pair(record, Room.NIL);
                room.fail(Room.IS_TYPE, room.pair(room.symbol(getter ? "accessor" : "modifier"), list));
                mode = RAISE;
                return;
            }
            int at = Room.index(record) + 1 + room.at(procedure + 2);
            value = getter ? room.at(at) : Room.UNSPECIFIED;
            if (!getter) room.put(at, room.arg(2));
        }

        /** Procedures that have to do with what is left to do. */
        private void control() {
            int a = room.arg(1);
            int b = room.arg(2);
            mode = GIVE;
            switch (proc) {
                case HANDLERS: value = room.handlers; break;
                case PARAMETERS: value = room.parameters; break;
                case VALUES: value = operands == 1 ? a : values(operands); break;
                case APPLY: spread(); break;
                case CALL_WITH_VALUES:
                    room.pushFrame(VALUES_FRAME, b, 0, 0, 0);
                    applyTo(a, 0);
                    break;
                case WITH:
                    room.pushFrame(WITH_FRAME, room.handlers, room.parameters, 0, 0);
                    room.handlers = a;
                    room.parameters = b;
                    applyTo(room.arg(3), 0);
                    break;
                case CALL_CC:
                    room.spend(1);
                    room.setArg(1, continuation());
                    applyTo(a, 1);
                    break;
                case STOP:
                    last = a;
                    ended = 1;
                    mode = FINISH;
                    break;
                case READ:
                    reader.beginInput();
                    mode = INPUT;
                    break;
                default:
                    procedures.scribe.begin(a, proc == Proc.DISPLAY, false);
                    mode = WRITE;
            }
        }

        private int continuation() {
            room.frozen = room.frameTop;
            int i = room.make(5);
            room.put(i, Room.CONTINUATION);
            room.put(i + 1, room.frame);
            room.put(i + 2, room.handlers);
            room.put(i + 3, room.parameters);
            room.put(i + 4, serial);
            return Room.value(Room.PROC, i);
        }

        /** A procedure is applied within the house to so many operands, which stand in args. */
        private void applyTo(int f, int n) {
            room.spend(1 + n);
            room.setArg(0, f);
            operands = n;
            mode = APPLY;
        }

        private void spread() {
            int list = room.arg(operands);
            if (!room.isList(list)) {
                procedures.type(list);
                mode = RAISE;
                return;
            }
            int single = operands - 2;
            int n = single + room.pairs(list);
            room.spend(1 + n);
            for (int i = 0; i <= single; i++) room.setArg(i, room.arg(i + 1));
            for (int i = single + 1; i <= n; i++) {
                room.setArg(i, room.car(list));
                list = room.cdr(list);
            }
            operands = n;
            mode = APPLY;
        }

        // conditions

        private static String messageOf(int condition) {
            switch (condition) {
                case Room.IS_TYPE: return "type";
                case Room.IS_RANGE: return "range";
                case Room.IS_ARITY: return "arity";
                case Room.IS_CALL: return "call";
                case Room.IS_UNBOUND: return "unbound";
                case Room.IS_UNASSIGNED: return "unassigned";
                case Room.IS_ZERO: return "zero";
                case Room.IS_LIMIT: return "limit";
                case Room.IS_READ: return "read";
                case Room.IS_DEAD: return "dead";
                default: return "syntax";
            }
        }

        /** raise is applied in place of the answer. */
        private void raise() {
            int condition = room.fault;
            int irritants = room.irritants;
            int message = Room.NOTHING;
            room.fault = 0;
            if (condition == Room.IS_SYNTAX && expander.message != Room.NOTHING) {
                message = copyOf(expander.message);
                int rest = room.cdr(room.cdr(room.culprit));
                int last = Room.NIL;
                for (int turn = 0; turn < Room.SIZE && Room.isPair(rest); rest = room.cdr(rest), turn++) {
                    int datum = room.car(rest);
                    int pair = room.pair(isCopied(datum) ? rules.build(datum, true) : Room.NIL, Room.NIL);
                    if (last == Room.NIL) irritants = pair;
                    else room.put(Room.index(last) + 1, pair);
                    last = pair;
                }
            } else {
                if (condition == Room.IS_SYNTAX && isCopied(room.culprit)) {
                    irritants = room.pair(rules.build(room.culprit, true), Room.NIL);
                }
                message = room.newString(messageOf(condition));
            }
            room.spend(1);
            room.setArg(1, Room.value(Room.ERROR, room.record(2, message, irritants, 0, 0)));
            applyTo(raiser, 1);
        }

        private boolean isCopied(int datum) {
            return rules.fits(datum, Expander.DEEPEST, Expander.MOST_DATA);
        }

        private int copyOf(int string) {
            int n = room.size(string);
            int copy = room.row(Room.STRING, n);
            for (int i = 0; i < n; i++) room.setItem(copy, i, room.item(string, i));
            return copy;
        }
    }

    private static final String PRELUDE = """
        (define-syntax and (syntax-rules () ((_) #t) ((_ x) x) ((_ x y ...) (if x (and y ...) #f))))
        (define-syntax when (syntax-rules () ((_ t b ...) (if t (begin b ...)))))
        (define-syntax unless (syntax-rules () ((_ t b ...) (if t (if #f #f) (begin b ...)))))
        (define-syntax letrec* (syntax-rules () ((_ ((n v) ...) b ...) ((lambda () (define n v) ... ((lambda () b ...)))))))
        (define-syntax letrec (syntax-rules () ((_ x b ...) (letrec* x b ...))))
        (define-syntax let (syntax-rules () ((_ ((n v) ...) b ...) ((lambda (n ...) b ...) v ...)) ((_ t ((n v) ...) b ...) ((letrec* ((t (lambda (n ...) b ...))) t) v ...))))
        (define-syntax let* (syntax-rules () ((_ () b ...) (let () b ...)) ((_ (x y ...) b ...) (let (x) (let* (y ...) b ...)))))
        (define-syntax or (syntax-rules () ((_) #f) ((_ x) x) ((_ x y ...) (let ((t x)) (if t t (or y ...))))))
        (define-syntax cond (syntax-rules (else =>) ((_ (else r ...)) (begin r ...)) ((_ (t => f)) (let ((x t)) (if x (f x)))) ((_ (t => f) c ...) (let ((x t)) (if x (f x) (cond c ...)))) ((_ (t)) t) ((_ (t) c ...) (let ((x t)) (if x x (cond c ...)))) ((_ (t r ...)) (if t (begin r ...))) ((_ (t r ...) c ...) (if t (begin r ...) (cond c ...)))))
        (define-syntax case (syntax-rules (else =>) ((_ (k ...) c ...) (let ((x (k ...))) (case x c ...))) ((_ k (else => f)) (f k)) ((_ k (else r ...)) (begin r ...)) ((_ k ((a ...) => f)) (if (memv k '(a ...)) (f k))) ((_ k ((a ...) => f) c ...) (if (memv k '(a ...)) (f k) (case k c ...))) ((_ k ((a ...) r ...)) (if (memv k '(a ...)) (begin r ...))) ((_ k ((a ...) r ...) c ...) (if (memv k '(a ...)) (begin r ...) (case k c ...)))))
        (define-syntax do (syntax-rules () ((_ ((v i s ...) ...) (t e ...) c ...) (let loop ((v i) ...) (if t (begin (if #f #f) e ...) (begin c ... (loop (do "step" v s ...) ...))))) ((_ "step" x) x) ((_ "step" x y) y)))
        (define-syntax quasiquote (syntax-rules (unquote unquote-splicing quasiquote) ((_ (unquote x)) x) ((_ ((unquote-splicing x) . y)) (append x (quasiquote y))) ((_ (quasiquote x) . d) (list 'quasiquote (quasiquote x #t . d))) ((_ (unquote x) t . d) (list 'unquote (quasiquote x . d))) ((_ ((unquote-splicing x) . y) t . d) (cons (list 'unquote-splicing (quasiquote x . d)) (quasiquote y t . d))) ((_ (x . y) . d) (cons (quasiquote x . d) (quasiquote y . d))) ((_ #(x ...) . d) (list->vector (quasiquote (x ...) . d))) ((_ x . d) 'x)))
        (define-syntax let-values (syntax-rules () ((_ (x ...) b ...) (let-values "bind" (x ...) () (let () b ...))) ((_ "bind" () s b) (let s b)) ((_ "bind" ((f e) x ...) s b) (let-values "make" f e () (x ...) s b)) ((_ "make" () e a x s b) (call-with-values (lambda () e) (lambda a (let-values "bind" x s b)))) ((_ "make" (f . g) e (a ...) x (s ...) b) (let-values "make" g e (a ... t) x (s ... (f t)) b)) ((_ "make" f e (a ...) x (s ...) b) (call-with-values (lambda () e) (lambda (a ... . t) (let-values "bind" x (s ... (f t)) b))))))
        (define-syntax let*-values (syntax-rules () ((_ () b ...) (let () b ...)) ((_ (x y ...) b ...) (let-values (x) (let*-values (y ...) b ...)))))
        (define-syntax case-lambda (syntax-rules () ((_ (f b ...) ...) (%case-lambda (lambda f b ...) ...))))
        (define-syntax parameterize (syntax-rules () ((_ ((p v) ...) b ...) (%parameterize (list (cons p v) ...) (lambda () b ...)))))
        (define-syntax delay-force (syntax-rules () ((_ e) (%make-promise (cons #f (lambda () e))))))
        (define-syntax delay (syntax-rules () ((_ e) (delay-force (make-promise e)))))
        (define-syntax %field (syntax-rules () ((_ t (f a)) (define a (%accessor t 'f))) ((_ t (f a m)) (begin (define a (%accessor t 'f)) (define m (%modifier t 'f))))))
        (define-syntax define-record-type (syntax-rules () ((_ t (c a ...) p (f . r) ...) (begin (define t (%type 't '(f ...))) (define c (%constructor t '(a ...))) (define p (%predicate t)) (%field t (f . r)) ...))))
        (define-syntax %guard (syntax-rules (else =>) ((_ r (else b ...)) (begin b ...)) ((_ r (t => f)) (let ((x t)) (if x (f x) r))) ((_ r (t => f) c ...) (let ((x t)) (if x (f x) (%guard r c ...)))) ((_ r (t)) (or t r)) ((_ r (t) c ...) (let ((x t)) (if x x (%guard r c ...)))) ((_ r (t b ...)) (if t (begin b ...) r)) ((_ r (t b ...) c ...) (if t (begin b ...) (%guard r c ...)))))
        (define-syntax guard (syntax-rules () ((_ (v c ...) b ...) ((call/cc (lambda (out) (with-exception-handler (lambda (x) ((call/cc (lambda (back) (out (lambda () (let ((v x)) (%guard (back (lambda () (raise-continuable x))) c ...)))))))) (lambda () (call-with-values (lambda () b ...) (lambda xs (out (lambda () (apply values xs)))))))))))))
        (define (map f l . ls) (if (null? ls) (let loop ((l l) (r '())) (if (pair? l) (loop (cdr l) (cons (f (car l)) r)) (reverse r))) (let loop ((ls (cons l ls)) (r '())) (if (%all-pairs? ls) (loop (%cdrs ls) (cons (apply f (%cars ls)) r)) (reverse r)))))
        (define (for-each f l . ls) (if (null? ls) (let loop ((l l)) (if (pair? l) (begin (f (car l)) (loop (cdr l))))) (let loop ((ls (cons l ls))) (if (%all-pairs? ls) (begin (apply f (%cars ls)) (loop (%cdrs ls)))))))
        (define (vector-map f v . vs) (list->vector (apply map f (vector->list v) (map vector->list vs))))
        (define (vector-for-each f v . vs) (apply for-each f (vector->list v) (map vector->list vs)))
        (define (string-map f s . ss) (list->string (apply map f (string->list s) (map string->list ss))))
        (define (string-for-each f s . ss) (apply for-each f (string->list s) (map string->list ss)))
        (define (member x l . p) (let loop ((l l)) (if (pair? l) (if ((if (null? p) equal? (car p)) x (car l)) l (loop (cdr l))) #f)))
        (define (assoc x l . p) (let loop ((l l)) (if (pair? l) (if ((if (null? p) equal? (car p)) x (car (car l))) (car l) (loop (cdr l))) #f)))
        (define %winds '())
        (define (%travel to) (let ((from %winds)) (if (eq? from to) #t (if (< (length from) (length to)) (begin (%travel (cdr to)) ((car (car to))) (set! %winds to)) (begin (set! %winds (cdr from)) ((cdr (car from))) (%travel to))))))
        (define (call/cc f) (%call/cc (lambda (k) (let ((winds %winds)) (f (lambda xs (%travel winds) (apply k xs)))))))
        (define call-with-current-continuation call/cc)
        (define (dynamic-wind a f b) (a) (set! %winds (cons (cons a b) %winds)) (call-with-values f (lambda xs (set! %winds (cdr %winds)) (b) (apply values xs))))
        (define (with-exception-handler h f) (%with (cons h (%handlers)) (%parameters) f))
        (define (raise x) (let ((hs (%handlers))) (if (null? hs) (%stop x) (%with (cdr hs) (%parameters) (lambda () ((car hs) x) (raise (%make-error "handled" (list x))))))))
        (define (raise-continuable x) (let ((hs (%handlers))) (if (null? hs) (%stop x) (%with (cdr hs) (%parameters) (lambda () ((car hs) x))))))
        (define (error m . xs) (raise (%make-error m xs)))
        (define (make-parameter v . c) (if (null? c) (%make-parameter v (lambda (x) x)) (%make-parameter ((car c) v) (car c))))
        (define (%parameterize ps f) (%with (%handlers) (append (map (lambda (p) (cons (car p) ((%converter (car p)) (cdr p)))) ps) (%parameters)) f))
        (define-record-type %promise (%make-promise box) promise? (box %box %box!))
        (define (make-promise x) (if (promise? x) x (%make-promise (cons #t x))))
        (define (force p) (if (promise? p) (if (car (%box p)) (cdr (%box p)) (let ((q ((cdr (%box p))))) (if (not (car (%box p))) (begin (set-car! (%box p) (car (%box q))) (set-cdr! (%box p) (cdr (%box q))) (%box! q (%box p)))) (force p))) p))
        """;
}
