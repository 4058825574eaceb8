/** The promises 1 to 8, one after the other, with what the document names as edges. */
final class PromisesTest {
    private static final int MOST = 6000;
    private final House h = new House();

    public static void main(String[] args) {
        PromisesTest test = new PromisesTest();
        test.newObject();
        test.feed();
        test.end();
        test.input();
        test.evaluate();
        test.told();
        test.sum();
        test.count();
        test.full();
        House.finish();
    }

    private static String many(String part, int n) {
        StringBuilder text = new StringBuilder();
        for (int i = 0; i < n; i++) text.append(part);
        return text.toString();
    }

    private void newObject() {
        SchemeHouse x = new SchemeHouse();
        h.due("NONE", SchemeHouse.NONE, -1);
        for (int what = 0; what <= 8; what++) h.due("count of a new house", x.count(what), 0);
        for (int what = 0; what <= 1; what++) {
            h.due("told of a new house", x.told(what, 0), -1);
            h.due("sum of a new house", x.sum(what), 0);
        }
        h.due("input() of an empty tape", x.input(), 0);
        h.due("evaluate() of an empty tape", x.evaluate(), 0);
        h.due("RESULT of an empty tape", x.count(1), 0);
        h.due("(read-char)", 0, "#<eof>");
    }

    private void feed() {
        SchemeHouse x = new SchemeHouse();
        for (int i = 0; i < MOST / 20; i++) h.due("feed", x.feed(0x20202020, 0x20202020, 0x20202020, 0x20202020, 0x20202020), true);
        h.due("a full tape", x.count(5), MOST);
        h.due("feed of a full tape", x.feed(0, 0, 0, 0, 0), false);
        h.due("a full tape stays", x.count(5), MOST);
        h.due("end(5981)", x.end(5981), true);
        h.due("feed with 19 bytes left", x.feed(0, 0, 0, 0, 0), false);
        h.due("feed with 20 bytes left", x.end(5980) && x.feed(0, 0, 0, 0, 0), true);
        h.due("zeros are WRONG", x.evaluate(), -1 - 5980);
        h.due("the tape is empty", x.count(5), 0);
        // "(+ 1 2) ; the rest .." with the highest byte first
        h.due("feed", x.feed(0x282b2031, 0x2032293b, 0x80000000, -1, -1), true);
        h.due("end(8)", x.end(8), true);
        h.due("evaluate()", x.evaluate(), 0);
        h.due("a byte of the RESULT", x.told(1, 0), '3');
        h.due("a byte above 127", x.feed(0x313b80ff, 0, 0, 0, 0) && x.end(4), true);
        h.due("is WRONG at itself", x.evaluate(), -3);
        // what doesn't fit changes nothing: not the tape, nor INPUT, OUTPUT, RESULT, or what count tells
        h.fresh();
        h.input("abc");
        h.due("(display 12) 'a", 0, "a");
        h.feed(many(" ", 5990) + "(list 1 2)");
        for (int what = 0; what <= 8; what++) {
            int before = h.get().count(what);
            h.due("feed of a full tape", h.get().feed(0x29292929, 0x29292929, 0x29292929, 0x29292929, 0x29292929), false);
            h.due("count(" + what + ") stays", h.get().count(what), before);
        }
        h.due("OUTPUT stays", h.told(0), "12");
        h.due("RESULT stays", h.told(1), "a");
        h.due("evaluate()", h.get().evaluate(), 0);
        h.due("RESULT of the full tape", h.told(1), "(1 2)");
        h.due("(read)", 0, "abc");
        h.feed(many(" ", 5971) + "(list 3 4)");
        h.due("feed with 19 bytes left", h.get().feed(0x29292929, 0x29292929, 0x29292929, 0x29292929, 0x29292929), false);
        h.due("the tape stays", h.get().count(5), 5981);
        h.due("evaluate()", h.get().evaluate(), 0);
        h.due("RESULT", h.told(1), "(3 4)");
        h.feed(many(" ", 5970) + "(list 5 6)");
        h.due("feed with 20 bytes left", h.get().feed(0x20282b20, 0x31203229, 0x20202020, 0x20202020, 0x20202020), true);
        h.due("the tape is full", h.get().count(5), MOST);
        h.due("evaluate()", h.get().evaluate(), 0);
        h.due("RESULT", h.told(1), "3");
    }

    private void end() {
        h.fresh();
        SchemeHouse x = h.get();
        h.due("end(0) of an empty tape", x.end(0), true);
        h.due("end(1) of an empty tape", x.end(1), false);
        h.feed("12345");
        h.due("end(-1)", x.end(-1), false);
        h.due("end(6)", x.end(6), false);
        h.due("end(least)", x.end(Integer.MIN_VALUE), false);
        h.due("end(greatest)", x.end(Integer.MAX_VALUE), false);
        h.due("the tape stays", x.count(5), 5);
        h.due("end(5)", x.end(5), true);
        h.due("end(3)", x.end(3), true);
        h.due("bytes of the tape", x.count(5), 3);
        h.due("evaluate()", x.evaluate(), 0);
        h.due("RESULT", h.told(1), "123");
        h.feed("678");
        h.due("end(4)", x.end(4), false);
        h.due("end(-1)", x.end(-1), false);
        h.due("evaluate()", x.evaluate(), 0);
        h.due("RESULT of what stayed", h.told(1), "678");
        h.feed("9");
        h.due("end(0)", x.end(0), true);
        h.due("end(1) behind it", x.end(1), false);
        h.due("the tape is empty", x.count(5), 0);
        h.due("evaluate()", x.evaluate(), 0);
        h.due("RESULT", h.told(1), "");
        h.feed(many("8", MOST));
        h.due("end(6001)", x.end(MOST + 1), false);
        h.due("end(6000)", x.end(MOST), true);
        h.due("bytes of the tape", x.count(5), MOST);
    }

    private void input() {
        h.fresh();
        h.input("a\u00ff\u0001(1 . 2) #;x \"s\" rest");
        h.due("bytes left", h.get().count(6), 23);
        h.due("the tape is empty", h.get().count(5), 0);
        h.due("(list (peek-char) (read-char) (read-char) (read-char))", 0, "(#\\a #\\a #\\? #\\x1)");
        h.due("(list (read) (read))", 0, "((1 . 2) \"s\")");
        h.due("bytes left", h.get().count(6), 5);
        h.due("(read-line) (read-line)", 0, "#<eof>");
        h.input("x\ny");
        h.due("(list (read-line) (read-string 5) (read-string 5) (read-string 0))", 0, "(\"x\" \"y\" #<eof> \"\")");
        h.input("(1 2");
        h.due("(guard (e ((error-object? e) (list (error-object-message e) (error-object-irritants e)))) (read))", 0,
            "(\"read\" ())");
        h.due("the INPUT is at its end", h.get().count(6), 0);
        h.input("a\rb\r\n\n\rc");
        h.due("(list (read-line) (read-line) (read-line) (read-line) (read-line) (read-line))", 0,
            "(\"a\" \"b\" \"\" \"\" \"c\" #<eof>)");
        h.input(many("x", MOST));
        h.due("bytes left", h.get().count(6), MOST);
        h.due("(string-length (read-string 7000))", 0, "6000");
        h.due("bytes left", h.get().count(6), 0);
        h.input("old text");
        h.due("(read)", 0, "old");
        h.input("new");
        h.due("bytes left", h.get().count(6), 3);
        h.due("(read)", 0, "new");
        h.input("anew");
        h.due("input() of an empty tape", h.get().input(), 0);
        h.due("(read)", 0, "#<eof>");
    }

    private void evaluate() {
        h.fresh();
        h.due("1 2 (list 3 4)", 0, "(3 4)", "", 15);
        h.due("(display 'a) (car 'b) (display 'c)", 1, "#<error type>");
        h.due("OUTPUT of what was done", h.told(0), "a");
        h.due("forms done", h.get().count(8), 1);
        h.due("(raise 'stop)", 1, "stop");
        h.due("5 (let loop () (loop))", 2, "5");
        h.due("WORK", h.get().count(2), 40001);
        h.due("(let loop () (loop))", 2, "");
        h.due("(display 1) (", -14, "", "", 0);
        h.due("nothing was done", h.get().count(8), 0);
        h.due("", 0, "", "", 0);
        h.due(")", -1, "");
        h.due("(make-string 4000 #\\x)", 0, "\"" + many("x", 2999));
        h.due("(write-string (make-string 2999 #\\x)) (write-string \"yz\")", 2, "#<unspecified>");
        h.due("OUTPUT that fits", h.told(0), many("x", 2999) + "y");
        h.due("WORK as it is", h.get().count(2) < 40001, true);
        h.due(many(" ", 5999) + "7", 0, "7");
    }

    private void told() {
        h.fresh();
        SchemeHouse x = h.get();
        h.due("(display \"out\") 'result", 0, "result");
        h.due("told(0, 0)", x.told(0, 0), 'o');
        h.due("told(0, 2)", x.told(0, 2), 't');
        h.due("told(0, 3)", x.told(0, 3), -1);
        h.due("told(0, -1)", x.told(0, -1), -1);
        h.due("told(1, 5)", x.told(1, 5), 't');
        h.due("told(1, 6)", x.told(1, 6), -1);
        h.due("told(1, least)", x.told(1, Integer.MIN_VALUE), -1);
        h.due("told(1, greatest)", x.told(1, Integer.MAX_VALUE), -1);
        h.due("told(2, 0)", x.told(2, 0), -1);
        h.due("told(-1, 0)", x.told(-1, 0), -1);
        h.due("(", -2, "");
        h.due("the OUTPUT is new", x.told(0, 0), -1);
    }

    private void sum() {
        h.fresh();
        SchemeHouse x = h.get();
        h.due("(display \"ab\") 'abcdefghij", 0, "abcdefghij");
        h.due("sum(0)", x.sum(0), 31 * 'a' + 'b');
        h.due("sum(1)", x.sum(1), "abcdefghij".hashCode());
        h.due("sum(2)", x.sum(2), -1);
        h.due("sum(-1)", x.sum(-1), -1);
        h.due("sum(greatest)", x.sum(Integer.MAX_VALUE), -1);
        h.due("sum(least)", x.sum(Integer.MIN_VALUE), -1);
        // a wrap-around, and none of none
        h.due("(write-string (make-string 3000 #\\~)) 'a", 0, "a");
        h.due("sum(0) of 3000 bytes", x.sum(0), many("~", 3000).hashCode());
        h.due("sum(1) of one byte", x.sum(1), 'a');
        h.due("", 0, "");
        h.due("sum(0) of none", x.sum(0), 0);
        h.due("sum(1) of none", x.sum(1), 0);
        h.due("(write-char (integer->char 0)) (write-char (integer->char 127))", 0, "#<unspecified>");
        h.due("sum(0)", x.sum(0), 127);
        h.due("told(0, 0)", x.told(0, 0), 0);
        h.due("told(0, 1)", x.told(0, 1), 127);
    }

    private void count() {
        h.fresh();
        SchemeHouse x = h.get();
        h.due("(define-library (a)) (display 12) (begin 1 2 3)", 0, "3");
        h.due("bytes of the OUTPUT", x.count(0), 2);
        h.due("bytes of the RESULT", x.count(1), 1);
        int work = x.count(2);
        h.due("USED", x.count(3), work);
        h.due("FULL", x.count(4), 0);
        h.due("libraries", x.count(7), 1);
        h.due("forms done", x.count(8), 3);
        h.due("1", 0, "1", "", 1);
        h.due("USED", x.count(3), work + 1);
        h.feed("123456");
        h.due("bytes of the tape", x.count(5), 6);
        h.due("count(9)", x.count(9), -1);
        h.due("count(-1)", x.count(-1), -1);
        h.due("count(greatest)", x.count(Integer.MAX_VALUE), -1);
        h.due("count(least)", x.count(Integer.MIN_VALUE), -1);
    }

    private void full() {
        h.fresh();
        SchemeHouse x = h.get();
        h.input("rest");
        h.due("(define-library (a)) (define z 1)", 0, "#<unspecified>");
        int used = x.count(2);
        for (int i = 0; i < 4; i++) h.due("(let loop () (loop))", 2, "");
        used += 4 * 40001;
        h.due("USED", x.count(3), used);
        h.due("z", 0, "1", "", 1);
        h.due("(let loop ((i 0)) (if (< i 3320) (loop (+ i 1)) (begin (display i) z)))", 0, "1");
        h.due("USED is below the limit", x.count(3) <= 200000, true);
        h.due("not FULL yet", x.count(4), 0);
        h.due("(define w 1) 'x (let loop ((i 0)) (if (< i 100) (loop (+ i 1)) (begin (display i) z)))", 0, "1");
        h.due("FULL", x.count(4), 1);
        h.due("USED of a new house", x.count(3), 0);
        h.due("libraries of a new house", x.count(7), 0);
        h.due("the OUTPUT stays", h.told(0), "100");
        h.due("forms of the evaluation stay", x.count(8), 3);
        h.due("the INPUT stays", x.count(6), 4);
        h.due("z", 1, "#<error unbound>");
        h.due("(read)", 0, "rest");
    }
}
