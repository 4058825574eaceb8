/** WORK clause by clause, and the edges of WORK, USED, OUTPUT, RESULT: the last case still allowed, the first that isn't. */
final class EdgesOfWorkTest {
    /** What raise counts when there are no handlers, and what applies it. */
    private static final int STOPPED = 14 + 2;
    private final House h = new House();

    public static void main(String[] args) {
        EdgesOfWorkTest test = new EdgesOfWorkTest();
        test.read();
        test.expressions();
        test.applications();
        test.bodies();
        test.scopes();
        test.macros();
        test.rulesHeld();
        test.things();
        test.literalsAndStrings();
        test.templates();
        test.places();
        test.imports();
        test.made();
        test.givenBack();
        test.procedures();
        test.conditions();
        test.syntax();
        test.limitOfWork();
        test.limitOfReading();
        test.output();
        test.result();
        test.used();
        test.asNew();
        test.tapeAndInputWhenFull();
        House.finish();
    }

    /** The text ends as 0 with this RESULT and this WORK. */
    private void due(String text, String result, int work) {
        h.due(text, 0, result, "", work);
    }

    /** The text is stopped by an error with this message, irritants pairs and the WORK ahead of the condition. */
    private void fails(String text, String message, int irritants, int work) {
        h.due(text, 1, "#<error " + message + ">", "", work + irritants + 1 + message.length() + 1 + STOPPED);
    }

    // "by the units of what is made (by the reader ..)"; "READING: makes WORK ahead of the first form .. what is WRONG
    // makes none"; "#; makes its DATUM as others (its WORK counts)"
    private void read() {
        h.fresh();
        due("", "", 0);
        due("1", "1", 1);
        due("#t", "#t", 1);
        due("#;1", "", 0);
        due("#;(1 2)", "", 2);
        due("#;\"abc\" 1", "1", 4 + 1);
        due("#;1. 1", "1", 4 + 1);
        due("\"\"", "\"\"", 1 + 1);
        due("\"abc\"", "\"abc\"", 4 + 1);
        due("#u8()", "#u8()", 1 + 1);
        due("#u8(1 2 3)", "#u8(1 2 3)", 4 + 1);
        due("#;#() 1", "1", 1 + 1);
        due("#;#(1 2) 1", "1", 3 + 1);
        due("#;'a 1", "1", 2 + 1);
        due("#;(a . b) 1", "1", 1 + 1);
        due("#;(a b . c) 1", "1", 2 + 1);
        due("#;#0=(a . #0#) 1", "1", 1 + 1);
        due("#;freshly 1", "1", 8 + 1);
        due("#;freshly 1", "1", 1);
        due("#;(another another) 1", "1", 2 + 8 + 1);
        due("#;|a b| 1", "1", 4 + 1);
        due("#;|| 1", "1", 1 + 1);
        due("#;|| 1", "1", 1);
        h.due("(1 2", -5, "", "", 0);
        h.due("\"abc\" 1. )", -10, "", "", 0);
        h.due("USED", h.get().count(3) > 0, true);
        int used = h.get().count(3);
        h.due("(list 1 2", -10, "", "", 0);
        h.due("USED as it was", h.get().count(3), used);
        // "The SYMBOLS accessor and modifier are there from the beginning on."
        due("'(accessor modifier)", "(accessor modifier)", 2 + 2 + 1 + 2);
    }

    // "by 1 with each IDENTIFIER, APPLICATION, CORE form .. or other EXPRESSION that is expanded"; "by 1 with each if,
    // set!, define that is begun"; "each begin that is an EXPRESSION .. and [has] more than one FORM"
    private void expressions() {
        h.fresh();
        due("car", "#<procedure>", 1);
        due("'1", "1", 2 + 1);
        due("'(1 2)", "(1 2)", 2 + 2 + 1 + 2);
        due("#(1 2)", "#(1 2)", 3 + 1 + 3);
        due("(if 1 2)", "2", 3 + 3 + 1);
        due("(if 1 2 3)", "2", 4 + 4 + 1);
        due("(if #f 2)", "#<unspecified>", 3 + 3 + 1);
        due("(define x 1)", "#<unspecified>", 3 + 2 + 1 + 2);
        due("(define x 1)", "#<unspecified>", 3 + 2 + 1);
        due("(set! x 2)", "#<unspecified>", 3 + 2 + 1);
        due("(define (x) 1)", "#<unspecified>", 4 + 1 + 3 + 1 + 1 + 2);
        due("(begin)", "#<unspecified>", 1 + 1);
        due("(begin 1 2)", "2", 3 + 1 + 2);
        due("(begin (begin 1))", "1", 2 + 2 + 2 + 1);
        due("(if 1 (begin 2))", "2", 5 + 4 + 1);
        due("(if 1 (begin 2 3))", "3", 6 + 5 + 1 + 1);
        due("(if 1 (begin 2 3 4))", "4", 7 + 6 + 1 + 1);
        due("(if 1 (begin (begin 2 3) 4))", "4", 9 + 7 + 1 + 2);
        due("(lambda () 1)", "#<procedure>", 3 + 4 + 2);
    }

    // "by 1 with each APPLICATION that is begun, and with each value of one's part (what applies a procedure within the
    // house, like apply, conditions, counts 1 and the number of its operands)"
    private void applications() {
        h.fresh();
        due("(list)", "()", 1 + 2 + 2);
        due("(list 1)", "(1)", 2 + 3 + 3 + 1);
        due("(+ 1 2 3)", "6", 4 + 5 + 5);
        due("(car (list 1))", "1", 4 + 5 + 3 + 3 + 1);
        due("(apply list '())", "()", 5 + 4 + 4 + 1);
        due("(apply list '(1 2))", "(1 2)", 7 + 4 + 2 + 4 + 3 + 2);
        due("(apply list 1 '(2))", "(1 2)", 7 + 5 + 1 + 5 + 3 + 2);
        due("(call-with-values list list)", "(())", 3 + 4 + 4 + 1 + 2 + 1);
        due("(call-with-values values list)", "()", 3 + 4 + 4 + 1 + 1 + 1);
        due("(%with '() '() list)", "()", 8 + 6 - 1 + 5 + 1);
        due("(%call/cc list)", "(#<procedure>)", 2 + 3 + 3 + 1 + 2 + 1);
        due("((%case-lambda (lambda (x) x)) 1)", "1", 8 + 1 + 1 + 1 + 3 + 1 + 1 + 1 + 1 + 1 + 1 + 3 + 1 + 1 + 1 + 2);
    }

    // "each BODY that [is] begun and [has] more than one FORM (a BODY's defines are some, its define-syntax not), and by
    // the number of a BODY's defines as it is begun"; "a lambda .. by 3"
    private void bodies() {
        h.fresh();
        int lambda = 1 + 3 + 1 + 1 + 2;
        due("((lambda () 1))", "1", 4 + lambda + 1);
        due("((lambda () 1 2))", "2", 5 + lambda + 2 + 1);
        due("((lambda () (begin 1 2)))", "2", 7 + lambda + 1 + 2 + 1);
        due("((lambda () (begin) 1))", "1", 6 + lambda + 1 + 1);
        due("((lambda () (define x 1) x))", "1", 8 + lambda + 1 + 1 + 1 + 1 + 1 + 1 + 1);
        due("((lambda () (define x 1) (define y 2) x))", "1", 12 + lambda + 2 * 3 + 1 + 1 + 2 + 2);
        due("((lambda () (define (f) 1) (f)))", "1", 10 + lambda + 1 + 1 + 3 + 1 + 2 + 1 + 1 + 1 + 2 + 2);
        due("((lambda () (define-syntax m (syntax-rules ())) 1))", "1", 10 + lambda + 1 + 1 + 3 + 1);
        due("((lambda () (define-syntax m (syntax-rules ())) 1 2))", "2", 11 + lambda + 1 + 1 + 3 + 2 + 1);
        due("(let-syntax () 1)", "1", 3 + 1 + 1 + 3 + 1 + 1 + 1 + 2);
        due("(let-syntax ((m (syntax-rules ()))) 1)", "1", 8 + 1 + 1 + 3 + 1 + 3 + 1 + 1 + 1 + 2);
        due("(let-syntax () 1 2)", "2", 4 + 1 + 1 + 3 + 2 + 1 + 1 + 2 + 1);
    }

    // "with each IDENTIFIER that a scope binds (as it is looked at)"; "a rest FORMAL's list by its pairs"; "a lambda .. by
    // 3, 2 of these when it has as many parts as it must, ahead of its FORMALS"
    private void scopes() {
        h.fresh();
        due("(lambda (x y) 1)", "#<procedure>", 5 + 4 + 2 + 2);
        due("(lambda (x . y) 1)", "#<procedure>", 4 + 4 + 2 + 2);
        due("(lambda x 1)", "#<procedure>", 3 + 4 + 1 + 2);
        due("((lambda x x))", "()", 4 + 1 + 3 + 1 + 1 + 1 + 1 + 2);
        due("((lambda x x) 1 2)", "(1 2)", 6 + 1 + 3 + 1 + 1 + 2 + 1 + 3 + 2 + 2);
        due("((lambda (x . y) y) 1 2)", "(2)", 7 + 1 + 3 + 2 + 1 + 2 + 1 + 3 + 2 + 1);
        fails("(lambda)", "syntax", 1 + 1, 1 + 1);
        fails("(lambda ())", "syntax", 1 + 2, 2 + 1);
        fails("(lambda 5 1)", "syntax", 1 + 3, 3 + 3);
        fails("(lambda (x x) 1)", "syntax", 1 + 5, 5 + 3 + 1);
        fails("(lambda (x y 5) 1)", "syntax", 1 + 6, 6 + 3 + 2);
        fails("(define (x))", "syntax", 1 + 3, 3 + 1 + 1);
        fails("(define (x 5) 1)", "syntax", 1 + 5, 5 + 1 + 3);
    }

    // "(a MACRO use by its RULES' count and what it becomes)"; "a MACRO (RULES that are bound) 3"; "of what isn't so"
    private void macros() {
        h.fresh();
        due("(define-syntax m (syntax-rules ()))", "#<unspecified>", 5 + 1 + 3);
        due("(define-syntax m (syntax-rules () ((_) 1)))", "#<unspecified>", 9 + 1 + 3);
        due("(m)", "1", 1 + 1 + 1);
        due("(list (m) (m))", "(1 1)", 5 + 2 + 4 + 4 + 2);
        fails("(define-syntax m (syntax-rules () ((_))))", "syntax", 1 + 5, 8 + 1);
    }

    // "by 1 with each RULE that a use of a MACRO is held against (by 1 if it has none)"
    private void rulesHeld() {
        h.fresh();
        due("(define-syntax m (syntax-rules ()))", "#<unspecified>", 5 + 1 + 3);
        fails("(m)", "syntax", 1 + 1, 1 + 1);
        due("(define-syntax m (syntax-rules () ((_ 1) 1) ((_ 2) 2) ((_ 3) 3)))", "#<unspecified>", 5 + 3 * 5 + 1 + 3);
        for (int i = 1; i <= 3; i++) due("(m " + i + ")", Integer.toString(i), 2 + i + 1);
        fails("(m 4)", "syntax", 1 + 2, 2 + 3);
    }

    // "by the number of things that a PATTERN's ... stands for"
    private void things() {
        h.fresh();
        h.due("(define-syntax m (syntax-rules () ((_ x ...) 1)))", 0, "#<unspecified>");
        for (int n = 0; n < 5; n++) due("(m" + " 5".repeat(n) + ")", "1", 1 + n + 1 + n + 1);
        h.due("(define-syntax m (syntax-rules () ((_ x ... y z) 1)))", 0, "#<unspecified>");
        for (int n = 2; n < 5; n++) due("(m" + " 5".repeat(n) + ")", "1", 1 + n + 1 + n - 2 + 1);
        fails("(m 1)", "syntax", 1 + 2, 2 + 1);
        h.due("(define-syntax m (syntax-rules () ((_ (x ...) ...) 1)))", 0, "#<unspecified>");
        due("(m (1 2) () (3))", "1", 4 + 3 + 1 + 3 + 3 + 1);
        h.due("(define-syntax m (syntax-rules () ((_ (x ...) 5) 1) ((_ . y) 2)))", 0, "#<unspecified>");
        due("(m (1 2) 6)", "2", 5 + 1 + 2 + 1 + 1);
    }

    // "by 1 with each literal, and by 1 and a 64th of its size (cut) with each string or bytevector of a PATTERN, that a
    // thing is held against, ahead of looking at these"
    private void literalsAndStrings() {
        h.fresh();
        h.due("(define-syntax m (syntax-rules (x) ((_ x) 1) ((_ y) 2)))", 0, "#<unspecified>");
        due("(m x)", "1", 2 + 1 + 1 + 1);
        due("(m y)", "2", 2 + 1 + 1 + 1 + 1);
        due("(m 5)", "2", 2 + 1 + 1 + 1 + 1);
        for (int size : new int[] {0, 1, 63, 64, 127, 128, 200}) {
            String string = "\"" + "s".repeat(size) + "\"";
            String bytes = "#u8(" + "7 ".repeat(size) + ")";
            int held = 1 + size / 64;
            h.due("(define-syntax m (syntax-rules () ((_ " + string + ") 1) ((_ y) 2)))", 0, "#<unspecified>");
            due("(m " + string + ")", "1", 2 + 1 + size + 1 + held + 1);
            due("(m 5)", "2", 2 + 1 + held + 1 + 1);
            h.due("(define-syntax m (syntax-rules () ((_ " + bytes + ") 1) ((_ y) 2)))", 0, "#<unspecified>");
            due("(m " + bytes + ")", "1", 2 + 1 + size + 1 + held + 1);
            due("(m \"s\")", "2", 2 + 2 + 1 + held + 1 + 1);
        }
        // the PATTERN's string is the thing itself
        h.due("(define-syntax m (syntax-rules () ((_ s) (begin (define-syntax k (syntax-rules () ((_ #(1 s 2)) 3)))"
            + " (k #(1 s 2))))))", 0, "#<unspecified>");
        String vectors = "\"" + "s".repeat(64) + "\"";
        h.due("(m 5)", 0, "3");
        int plain = h.get().count(2);
        h.due("(m \"\")", 0, "3", "", plain + 1 + 1);
        h.due("(m " + vectors + ")", 0, "3", "", plain + 1 + 64 + 1 + 1);
        h.due("(m #u8())", 0, "3", "", plain + 1 + 1);
        h.due("(m #u8(" + "7 ".repeat(64) + "))", 0, "3", "", plain + 1 + 64 + 1 + 1);
        h.due("(define-syntax m (syntax-rules () ((_ 1 \"s\") 1) ((_ . y) 2)))", 0, "#<unspecified>");
        due("(m 2 3)", "2", 3 + 1 + 1 + 1);
        due("(m 1 3)", "2", 3 + 1 + 1 + 1 + 1);
        due("(m 1)", "2", 2 + 1 + 1 + 1);
    }

    // "by 1 with each ALIAS"; "Pairs and VECTORS of TEMPLATES are made anew in each use (a list's pair, a VECTOR's 1 ..; a
    // VECTOR's own 1 behind the last), other DATA are the same objects"
    private void templates() {
        h.fresh();
        h.due("(define-syntax m (syntax-rules () ((_ x) (if 1 x))))", 0, "#<unspecified>");
        due("(m 2)", "2", 2 + 1 + 1 + 3 + 3 + 1);
        h.due("(define-syntax m (syntax-rules () ((_ x) (list x x car car))))", 0, "#<unspecified>");
        due("(m 2)", "(2 2 #<procedure> #<procedure>)", 2 + 1 + 2 + 5 + 6 + 6 + 4);
        h.due("(define-syntax m (syntax-rules () ((_ x) #(x x \"s\"))))", 0, "#<unspecified>");
        due("(m 2)", "#(2 2 \"s\")", 2 + 1 + 4 + 1 + 4);
        h.due("(define-syntax m (syntax-rules () ((_ x) \"s\")))", 0, "#<unspecified>");
        due("(m 2)", "\"s\"", 2 + 1 + 1);
        h.due("(define-syntax m (syntax-rules () ((_ x ...) '(x ... . 5))))", 0, "#<unspecified>");
        due("(m 1 2)", "(1 2 . 5)", 3 + 1 + 2 + 1 + 2 + 2 + 1 + 2);
        h.due("(define-syntax m (syntax-rules () ((_ x) x)))", 0, "#<unspecified>");
        due("(m (list 1))", "(1)", 4 + 1 + 3 + 3 + 1);
    }

    // "by 2 with each PLACE that a table gets (but the house's own at first: by an IDENTIFIER that is expanded, or told by
    // set!, and MEANS nothing, by a define, by an import of an export without one)"
    private void places() {
        h.fresh();
        fails("l", "unbound", 1, 1 + 2);
        fails("l", "unbound", 1, 1);
        fails("(set! r 1)", "unbound", 1, 3 + 2 + 2 + 1);
        fails("(set! r 1)", "unbound", 1, 3 + 2 + 1);
        due("(define r 1)", "#<unspecified>", 3 + 2 + 1);
        due("(define b 1)", "#<unspecified>", 3 + 2 + 1 + 2);
        due("(define when 1)", "#<unspecified>", 3 + 2 + 1 + 2);
        due("(define-syntax k (syntax-rules ()))", "#<unspecified>", 5 + 1 + 3);
        due("(define k 1)", "#<unspecified>", 3 + 2 + 1 + 2);
        due("'t", "t", 2 + 1);
        due("(if 1 2 t)", "2", 4 + 4 + 2 + 1);
        due("(if 1 2 t)", "2", 4 + 4 + 1);
    }

    // "by 1 with each name that an import binds"; "(by an import of an export without one [a PLACE])"
    private void imports() {
        h.fresh();
        h.due("(define-library (l) (export x y (rename x z)))", 0, "#<unspecified>");
        due("(import (l))", "#<unspecified>", 2 + 1 + 1 + 3 + 2 * 2);
        due("(import (l))", "#<unspecified>", 2 + 1 + 1 + 3);
        due("(import (l) (l))", "#<unspecified>", 3 + 2 + 1 + 6);
        h.due("(import (only (l)) (except (l)) (prefix (l) x) (rename (l)))", 0, "#<unspecified>");
        due("(import (only (l) x x))", "#<unspecified>", 2 + 4 + 1 + 1 + 1);
        due("(import (except (l) x))", "#<unspecified>", 2 + 3 + 1 + 1 + 2);
        due("(import (rename (l) (x x)))", "#<unspecified>", 2 + 3 + 1 + 2 + 1 + 3);
        due("(import (prefix (l) x))", "#<unspecified>", 2 + 3 + 1 + 1 + 3);
        due("(import (prefix (l) t))", "#<unspecified>", 2 + 3 + 1 + 1 + 3 * 3 + 3);
        due("(import (prefix (l) t))", "#<unspecified>", 2 + 3 + 1 + 1 + 3);
        due("(import)", "#<unspecified>", 1 + 1);
        fails("(import (l) (k))", "syntax", 1 + 5, 3 + 2 + 1);
        due("(define-library (l))", "#<unspecified>", 2 + 1 + 1);
        due("(define-library (l) (begin 1))", "#<unspecified>", 3 + 1 + 2 + 1 + 1);
    }

    // "a pair 1, a string, vector, bytevector 1 and its size, .. a procedure 1 (a lambda's 2; %constructor's 1 and its
    // names), a record 1 and its fields, VALUES 1 and their number, a SYMBOL new in the house 1 and its size, .. a RECORD
    // TYPE 1 and its names, a MACRO .. 3, a CONTINUATION, ERROR OBJECT 1; other things nothing"
    private void made() {
        h.fresh();
        due("(cons 1 2)", "(1 . 2)", 3 + 4 + 4 + 1);
        due("(make-string 3)", "\"   \"", 2 + 3 + 3 + 4);
        due("(make-vector 3 1)", "#(1 1 1)", 3 + 4 + 4 + 4);
        due("(make-bytevector 3)", "#u8(0 0 0)", 2 + 3 + 3 + 4);
        due("(vector)", "#()", 1 + 2 + 2 + 1);
        due("(values)", "#<values>", 1 + 2 + 2 + 1);
        due("(values 1 2)", "#<values>", 3 + 4 + 4 + 3);
        due("(eof-object)", "#<eof>", 1 + 2 + 2);
        due("(string->symbol \"brandnew\")", "brandnew", 2 + 9 + 3 + 3 + 9);
        due("(string->symbol \"brandnew\")", "brandnew", 2 + 9 + 3 + 3);
        due("(%type 'x '(a b))", "#<record>", 3 + 2 + 4 + 4 + 2 + 4 + 3);
        h.due("(define t (%type 'x '(a b)))", 0, "#<unspecified>");
        due("(%constructor t '(b))", "#<procedure>", 3 + 3 + 4 + 1 + 4 + 2);
        due("(%constructor t '())", "#<procedure>", 3 + 2 + 4 + 4 + 1);
        due("((%constructor t '()))", "#<record>", 6 + 5 + 4 + 1 + 1 + 1 + 3);
        due("(%predicate t)", "#<procedure>", 2 + 3 + 3 + 1);
        due("(%accessor t 'a)", "#<procedure>", 3 + 2 + 4 + 4 + 1);
        due("(%modifier t 'a)", "#<procedure>", 3 + 2 + 4 + 4 + 1);
        due("(%make-parameter 1 car)", "#<procedure>", 3 + 4 + 4 + 1);
        due("(%make-error 1 '())", "#<error>", 3 + 2 + 4 + 4 + 1);
        due("(%case-lambda)", "#<procedure>", 1 + 2 + 2 + 1);
        due("(lambda () 1)", "#<procedure>", 3 + 4 + 2);
        due("(append '(1) '(2))", "(1 2)", 3 + 6 + 4 + 2 + 4 + 1);
        due("(string-append \"ab\" \"c\")", "\"abc\"", 3 + 5 + 4 + 4 + 4);
        due("(floor/ 7 2)", "#<values>", 3 + 4 + 4 + 3);
        due("(floor/ 7. 2)", "#<values>", 3 + 4 + 4 + 4 + 3 + 8);
        due("(exact-integer-sqrt 5)", "#<values>", 2 + 3 + 3 + 3);
        due("(number->string 123)", "\"123\"", 2 + 3 + 3 + 4);
        due("(string->number \"1.5\")", "1.5", 2 + 4 + 3 + 3 + 4);
    }

    // "An answer that is an operand given back isn't made, nor are a fraction's numerator and denominator"; "(+ 0 x), (* 1
    // x) make a new number, max, min give one back or a FLONUM of it; floor, square and so on of FLONUMS make new ones"
    private void givenBack() {
        h.fresh();
        int one = 2 + 3 + 3;
        int two = 3 + 4 + 4;
        due("(+ 1.)", "1.0", one + 4);
        due("(max 1.)", "1.0", one + 4);
        due("(+ 0 1.)", "1.0", two + 4 + 4);
        due("(* 1 1/2)", "1/2", two + 4 + 4);
        due("(max 1. 2)", "2.0", two + 4 + 4);
        due("(max 1. 0)", "1.0", two + 4);
        due("(min 1/2 1)", "1/2", two + 4);
        due("(numerator 1/2)", "1", one + 4);
        due("(numerator 4294967296/3)", "4294967296", one + 5);
        due("(denominator 4294967295/4294967296)", "4294967296", one + 5);
        due("(numerator .5)", "1.0", one + 8);
        due("(floor 1.)", "1.0", one + 8);
        due("(floor +inf.0)", "+inf.0", one + 8);
        due("(round 1.5)", "2.0", one + 8);
        due("(square 2.)", "4.0", one + 8);
        due("(sqrt 4.)", "2.0", one + 8);
        due("(inexact 1.)", "1.0", one + 4);
        due("(inexact 1)", "1.0", one + 4);
        due("(exact 1/2)", "1/2", one + 4);
        due("(exact .5)", "1/2", one + 8);
        due("(abs 1.)", "1.0", one + 4);
        due("(abs -1.)", "1.0", one + 8);
        due("(- 1.)", "-1.0", one + 8);
        due("(append '())", "()", 2 + 2 + 3 + 3);
        due("(append '() \"s\")", "\"s\"", 3 + 2 + 2 + 4 + 4);
        due("(list-copy '())", "()", 2 + 2 + 3 + 3);
        due("(reverse '())", "()", 2 + 2 + 3 + 3);
        due("(values \"s\")", "\"s\"", one + 2);
        due("(string-copy \"s\")", "\"s\"", one + 2 + 2);
        due("(symbol->string 'a)", "\"a\"", 2 + 2 + 3 + 3 + 2);
    }

    /** What procedures of the PRELUDE count is what their lambdas count. */
    private void procedures() {
        h.fresh();
        due("(define (f) 1)", "#<unspecified>", 4 + 1 + 3 + 1 + 1 + 2 + 2);
        due("(f)", "1", 1 + 2 + 2);
        due("(define (g x) (f))", "#<unspecified>", 6 + 1 + 3 + 1 + 2 + 1 + 2 + 2);
        due("(g 1)", "1", 2 + 3 + 3 + 2);
        due("(define p (%make-parameter 1 car))", "#<unspecified>", 3 + 3 + 1 + 4 + 1 + 4 + 1 + 2);
        due("(p)", "1", 1 + 2 + 2);
    }

    // "conditions: .. "type": a procedure's name, and the first operand ..", each "a pair 1", the message "a string", "ERROR
    // OBJECT 1", and raise applied "1 and the number of its operands"
    private void conditions() {
        h.fresh();
        fails("(car 1)", "type", 2, 2 + 3 + 3);
        fails("(vector-ref #(1) 1)", "range", 2, 3 + 2 + 4 + 2 + 4);
        fails("(car)", "arity", 1, 1 + 2 + 2);
        fails("(1)", "call", 1, 1 + 2 + 2);
        fails("l", "unbound", 1, 1 + 2);
        fails("((lambda () (define x x) 1))", "unassigned", 1, 8 + 1 + 3 + 2 + 1 + 1 + 4 + 2 + 1);
        fails("(/ 0)", "zero", 1, 2 + 3 + 3);
        fails("(expt 2 4000)", "limit", 1, 3 + 4 + 4);
        h.input(")");
        fails("(read)", "read", 0, 1 + 2 + 2);
        h.due("(%stop 1)", 1, "1", "", 2 + 3 + 3);
    }

    // "A "syntax" condition has the message "syntax" and one irritant, the form .. (without ALIASES)": a copy of it; "an
    // irritant that is so is not told: the irritants are ( ) then, without a pair"
    private void syntax() {
        h.fresh();
        fails("()", "syntax", 1, 1);
        fails("(if)", "syntax", 1 + 1, 1 + 1);
        fails("(if #(1 2))", "syntax", 1 + 2 + 3, 2 + 3 + 1);
        fails("(if \"s\")", "syntax", 1 + 2, 2 + 2 + 1);
        fails("if", "syntax", 1, 1);
        fails("(car if)", "syntax", 1, 2 + 1 + 1 + 1);
        fails("#0=(if . #0#)", "syntax", 0, 1 + 1);
        h.due("(syntax-error \"ab\" 1 (2))", 1, "#<error ab>", "", 8 + 1 + 3 + 3 + 1 + STOPPED);
        h.due("(syntax-error \"ab\" #0=(1 . #0#) 2)", 1, "#<error ab>", "", 8 + 1 + 2 + 3 + 1 + STOPPED);
    }

    // "Above 40000 the evaluation ends (LIMIT; its WORK is 40001 then)"
    private void limitOfWork() {
        h.fresh();
        String tenThousand = "(make-vector 9991)";
        h.feed(tenThousand);
        h.due("evaluate()", h.get().evaluate(), 0);
        h.due("WORK", h.get().count(2), 10000);
        h.due("1 2", 0, "2");
        h.feed(tenThousand.repeat(4));
        h.due("evaluate() with WORK 40000", h.get().evaluate(), 0);
        h.due("WORK", h.get().count(2), 40000);
        h.due("forms done", h.get().count(8), 4);
        h.feed("7 " + tenThousand.repeat(3) + "(make-vector 9990)");
        h.due("evaluate() with WORK 40000", h.get().evaluate(), 0);
        h.due("WORK", h.get().count(2), 40000);
        h.fresh();
        h.feed("7 " + tenThousand.repeat(4));
        h.due("evaluate() with WORK 40001", h.get().evaluate(), 2);
        h.due("WORK", h.get().count(2), 40001);
        h.due("USED", h.get().count(3), 40001);
        h.due("forms done", h.get().count(8), 4);
        h.feed(tenThousand.repeat(3) + "(begin (define x 'done) (make-vector 9999)) 'never");
        h.due("evaluate() with more WORK", h.get().evaluate(), 2);
        h.due("WORK", h.get().count(2), 40001);
        h.due("forms done", h.get().count(8), 3);
        h.due("x", 0, "done");
        h.due("(define-syntax m (syntax-rules () ((_ . x) (m x . x)))) (m)", 2, "#<unspecified>");
        h.due("WORK", h.get().count(2), 40001);
        h.due("(define (f) (f)) (f)", 2, "#<unspecified>", "", 40001);
        h.due("(define (f x) (cons 1 (f x))) (f 1)", 2, "#<unspecified>", "", 40001);
    }

    // "READING: .. is looked at for LIMIT at its end (of a DATUM that read reads likewise)"
    private void limitOfReading() {
        h.fresh();
        // the DATUM makes 9955, (read) itself 5, the vectors of n elements n and 9
        String datum = "(" + "1. ".repeat(1990) + "1 1 1 1 1)";
        String ahead = "(make-vector 9991)".repeat(3);
        h.input(datum + "#u8(1 2 3)");
        h.feed(ahead + "(make-vector 31)(read)");
        h.due("evaluate() with WORK 40000", h.get().evaluate(), 0);
        h.due("WORK", h.get().count(2), 40000);
        h.due("bytes left", h.get().count(6), 10);
        h.fresh();
        h.input(datum + "#u8(1 2 3)");
        h.feed(ahead + "(make-vector 32)(read)");
        h.due("evaluate() with WORK 40001", h.get().evaluate(), 2);
        h.due("WORK", h.get().count(2), 40001);
        h.due("forms done", h.get().count(8), 4);
        h.due("bytes left", h.get().count(6), 10);
        h.due("(read)", 0, "#u8(1 2 3)");
        // what is WRONG makes none
        h.input("(" + "1. ".repeat(1990));
        h.feed(ahead + "(guard (e (#t 'caught)) (read))");
        h.due("evaluate() of no DATUM", h.get().evaluate(), 0);
        h.due("RESULT", h.told(1), "caught");
    }

    // "so it does, with its WORK as it is, when its OUTPUT would have more than 3000 bytes (those that fit stay)"
    private void output() {
        h.fresh();
        h.feed("(write-string (make-string 3000 #\\x))");
        h.due("evaluate() with 3000 bytes", h.get().evaluate(), 0);
        h.due("bytes of the OUTPUT", h.get().count(0), 3000);
        h.due("the last byte", h.get().told(0, 2999), 'x');
        h.due("none behind it", h.get().told(0, 3000), -1);
        int work = 5 + 6 + 2 + 4 + 1;
        h.due("WORK", h.get().count(2), work + 3001);
        h.feed("(write-string (make-string 3001 #\\x)) 5");
        h.due("evaluate() with 3001 bytes", h.get().evaluate(), 2);
        h.due("bytes of the OUTPUT", h.get().count(0), 3000);
        h.due("WORK as it is", h.get().count(2), work + 3002);
        h.due("forms done", h.get().count(8), 0);
        String[] writers = {"(display 12345)", "(write 'abcde)", "(write-string \"abcde\")", "(display \"abcde\")", "(write #\\a)",
            "(write '(1 2))", "(display #(1))", "(display 1.25)"};
        String[] fit = {"123", "abc", "abc", "abc", "#\\a", "(1 ", "#(1", "1.2"};
        for (int i = 0; i < writers.length; i++) {
            h.fresh();
            h.due("1 (write-string (make-string 2997 #\\x)) " + writers[i] + " 2", i == 4 ? 0 : 2, i == 4 ? "2" : "#<unspecified>");
            h.due("OUTPUT", h.told(0), "x".repeat(2997) + fit[i]);
        }
        h.due("(write-string (make-string 2999 #\\x)) (newline)", 0, "#<unspecified>");
        h.due("(write-string (make-string 3000 #\\x)) (newline)", 2, "#<unspecified>");
        h.due("(write-string (make-string 3000 #\\x)) (write-char #\\a)", 2, "#<unspecified>");
        h.due("(write-string (make-string 3000 #\\x)) (display \"\") (write-string \"\")", 0, "#<unspecified>");
        h.due("(write-string (make-string 3000 #\\x)) (display '|a|)", 2, "#<unspecified>");
        // the next evaluation's OUTPUT is new
        h.due("(write-char #\\y)", 0, "#<unspecified>");
        h.due("OUTPUT", h.told(0), "y");
    }

    // "the RESULT the written value of the last form that was done ..; at most 3000 bytes of it"; "RESULT is written
    // without WORK"
    private void result() {
        h.fresh();
        int work = 3 + 4 + 4;
        h.due("(make-string 2998 #\\x)", 0, "\"" + "x".repeat(2998) + "\"", "", work + 2999);
        h.due("(make-string 2999 #\\x)", 0, "\"" + "x".repeat(2999), "", work + 3000);
        h.due("bytes of the RESULT", h.get().count(1), 3000);
        h.due("the last byte", h.get().told(1, 2999), 'x');
        h.due("none behind it", h.get().told(1, 3000), -1);
        h.due("(make-string 10000 #\\x)", 0, "\"" + "x".repeat(2999), "", work + 10001);
        h.due("(list (make-string 2995 #\\x) 1)", 0, "(\"" + "x".repeat(2995) + "\" 1");
        h.due("(make-vector 5000 1)", 0, "#(" + "1 ".repeat(1499), "", work + 5001);
        h.due("(raise (make-string 2999 #\\x))", 1, "\"" + "x".repeat(2999));
        h.due("(string->symbol (make-string 40 #\\space))", 0, "|" + " ".repeat(40) + "|");
    }

    // "USED is all WORK since the house was new. When it is above 200000 at an evaluation's end, the house is as new"
    private void used() {
        h.fresh();
        String fortyThousand = "(make-vector 9991)".repeat(4);
        for (int i = 1; i <= 5; i++) {
            h.feed(fortyThousand);
            h.due("evaluate()", h.get().evaluate(), 0);
            h.due("USED", h.get().count(3), i * 40000);
            h.due("FULL", h.get().count(4), 0);
        }
        h.due("", 0, "");
        h.due("USED", h.get().count(3), 200000);
        h.due("FULL of 200000", h.get().count(4), 0);
        h.due("1", 0, "1", "", 1);
        h.due("FULL of 200001", h.get().count(4), 1);
        h.due("USED", h.get().count(3), 0);
        h.due("1", 0, "1", "", 1);
        h.due("USED", h.get().count(3), 1);
        h.due("FULL", h.get().count(4), 1);
        // a second time, by LIMIT
        for (int i = 1; i <= 4; i++) h.due("(let loop () (loop))", 2, "");
        h.due("USED", h.get().count(3), 1 + 4 * 40001);
        h.due("(let loop () (loop))", 2, "", "", 40001);
        h.due("USED", h.get().count(3), 0);
        h.due("FULL", h.get().count(4), 2);
    }

    // "the house is as new (FULL: USED 0, no libraries; but OUTPUT, RESULT, INPUT, the tape, and what count() tells of the
    // evaluation and of FULL)"
    private void asNew() {
        h.fresh();
        h.due("(define-library (l) (export x) (import (scheme base)) (begin (define x 1)))", 0, "#<unspecified>");
        h.due("(import (l)) (define newsymbol 1) (define and 5) (define (car x) 'mine) (define-syntax list (syntax-rules ()))", 0,
            "#<unspecified>");
        int first = 2 + 10 + 1;
        for (int i = 0; i < 4; i++) h.due("(let loop () (loop))", 2, "");
        h.due("'newsymbol", 0, "newsymbol", "", 2 + 1);
        h.due("libraries", h.get().count(7), 1);
        h.due("(display \"out\") 'a (let loop () (loop))", 2, "a", "out", 40001);
        h.due("FULL", h.get().count(4), 1);
        h.due("USED", h.get().count(3), 0);
        h.due("libraries", h.get().count(7), 0);
        h.due("OUTPUT stays", h.told(0), "out");
        h.due("RESULT stays", h.told(1), "a");
        h.due("sum(0) stays", h.get().sum(0), "out".hashCode());
        h.due("WORK stays", h.get().count(2), 40001);
        h.due("forms done stay", h.get().count(8), 2);
        h.due("'newsymbol", 0, "newsymbol", "", first);
        h.due("(list (car '(1)) (and 1 2))", 0, "(1 2)");
        h.due("x", 1, "#<error unbound>");
        h.due("(import (l))", 1, "#<error syntax>");
        h.due("(import (scheme base)) (guard (e (#t e)) (raise 5))", 0, "5");
    }

    private void tapeAndInputWhenFull() {
        h.fresh();
        h.input("one two three");
        h.due("(read)", 0, "one");
        for (int i = 0; i < 4; i++) h.due("(let loop () (loop))", 2, "");
        h.due("(read) (let loop () (loop))", 2, "two");
        h.due("FULL", h.get().count(4), 1);
        h.due("bytes left", h.get().count(6), 6);
        h.due("bytes of the tape", h.get().count(5), 0);
        h.due("(read)", 0, "three");
    }
}
