/** The edges that "WHAT IS EVALUATED" and "EXPANDING" name: the last case that is still allowed, the first that isn't. */
final class EdgesOfFormsTest {
    private final House h = new House();

    public static void main(String[] args) {
        EdgesOfFormsTest test = new EdgesOfFormsTest();
        test.formsWithTooFewOrManyParts();
        test.formsThatStandElsewhere();
        test.expressions();
        test.quoted();
        test.formals();
        test.bodies();
        test.bodyDefinitions();
        test.unassigned();
        test.letSyntax();
        test.outermostDefinitions();
        test.outermostBegin();
        test.syntaxErrors();
        test.syntaxBeforeEvaluating();
        test.rulesThatAreNotSo();
        test.rulesThatAreSo();
        test.ellipsisParts();
        test.literals();
        test.otherData();
        test.aliases();
        test.applying();
        test.values();
        test.continuations();
        test.conditions();
        test.libraryNames();
        test.libraryDeclarations();
        test.importSets();
        test.imports();
        test.libraryTables();
        test.twelveLibraries();
        test.thousandExports();
        test.fortySigns();
        test.hundredSets();
        House.finish();
    }

    /** A new house in which what an evaluation is stopped by is told as a list: message and irritants. */
    private void fresh() {
        h.fresh();
        h.due("(define stop %stop) (define (%stop x) (stop (if (error-object? x) (cons (error-object-message x)"
            + " (error-object-irritants x)) x)))", 0, "#<unspecified>");
    }

    private void due(String text, String result) {
        h.due(text, 0, result);
    }

    /** The text ends by a "syntax" condition with this irritant. */
    private void syntax(String text, String irritant) {
        h.due(text, 1, "(\"syntax\" " + irritant + ")");
    }

    private void fails(String text, String condition) {
        h.due(text, 1, "(" + condition + ")");
    }

    // "( ), a list that isn't proper as an EXPRESSION, a CORE form that isn't as told are "syntax" with the form"
    private void formsWithTooFewOrManyParts() {
        fresh();
        String[] forms = {"(quote)", "(quote a b)", "(quote . a)", "(if)", "(if 1)", "(if 1 2 3 4)", "(if . 1)", "(if 1 . 2)",
            "(set!)", "(set! x)", "(set! x 1 2)", "(set! 5 1)", "(set! (a) 1)", "(set! \"x\" 1)", "(set! if 1)", "(set! and 1)",
            "(set! x . 1)", "(lambda)", "(lambda x)", "(lambda ())", "(lambda () . 1)", "(define)", "(define x)",
            "(define x 1 2)", "(define 5 1)", "(define (5) 1)", "(define ((f) a) 1)", "(define () 1)", "(define (f))",
            "(define \"x\" 1)", "(define x . 1)", "(define-syntax)", "(define-syntax a)",
            "(define-syntax a (syntax-rules ()) 1)", "(define-syntax 5 (syntax-rules ()))",
            "(define-syntax (a) (syntax-rules ()))", "(let-syntax)", "(let-syntax ())", "(let-syntax 5 1)", "(let-syntax a 1)",
            "(let-syntax (a) 1)", "(let-syntax ((a)) 1)", "(let-syntax ((a (syntax-rules ()) 1)) 1)",
            "(let-syntax ((5 (syntax-rules ()))) 1)", "(let-syntax (5) 1)", "(let-syntax ((a . b)) 1)",
            "(letrec-syntax)", "(letrec-syntax ())", "(letrec-syntax ((a)) 1)", "(f . x)", "(car 1 . 2)", "(import . x)",
            "(define-library)", "(begin . 1)", "(begin 1 . 2)", "(syntax-error)", "(syntax-error 5)", "(syntax-error a 5)",
            "(syntax-error \"a\" . b)", "(syntax-rules)", "(syntax-rules ())", "()"};
        for (String form : forms) syntax(form, form);
        due("(if 1 2)", "2");
        due("(if 1 2 3)", "2");
        due("(if #f 2)", "#<unspecified>");
        due("(if #f 2 3)", "3");
        due("(begin)", "#<unspecified>");
        due("(begin (begin) (begin))", "#<unspecified>");
        due("(define (f) 1) (f)", "1");
        due("(import)", "#<unspecified>");
        due("(define-syntax a (syntax-rules ()))", "#<unspecified>");
        syntax("(a)", "(a)");
        due("(let-syntax () 1)", "1");
    }

    // "(define-library ..), (import ..) outermost alone"; "(define-syntax ..) in a BODY or outermost"; "(begin FORMS) ..
    // as an EXPRESSION one at least"
    private void formsThatStandElsewhere() {
        fresh();
        String[] forms = {"(define x 1)", "(define (f) 1)", "(define-syntax a (syntax-rules ()))", "(begin)", "()",
            "(import (scheme base))", "(define-library (a))", "(syntax-rules ())", "(if)"};
        for (String form : forms) {
            syntax("(if 1 " + form + ")", form);
            syntax("(if 1 2 " + form + ")", form);
            syntax("(" + form + ")", form);
            syntax("(car " + form + ")", form);
            syntax("(define x " + form + ")", form);
            syntax("(set! x " + form + ")", form);
            syntax("(if 1 (begin " + form + "))", form);
            syntax("(if 1 (begin 1 " + form + "))", form);
            syntax("((lambda () 1 " + form + "))", form);
        }
        for (String form : new String[] {"(import (scheme base))", "(define-library (a))"}) {
            syntax("((lambda () " + form + " 1))", form);
            syntax("((lambda () (begin " + form + ") 1))", form);
        }
        due("(begin (import (scheme base)) (define-library (a)) (define x 1) (define-syntax b (syntax-rules () ((_) 2)))"
            + " (list x (b)))", "(1 2)");
    }

    // "an IDENTIFIER: its PLACE's value ("unbound" ..; a CORE word or MACRO is a "syntax" condition)"; "All else but ( )
    // is itself."
    private void expressions() {
        fresh();
        syntax("if", "if");
        syntax("and", "and");
        syntax("syntax-rules", "syntax-rules");
        syntax("define-library", "define-library");
        syntax("(car and)", "and");
        syntax("(list 1 ())", "()");
        fails("nothing", "\"unbound\" nothing");
        fails("(nothing)", "\"unbound\" nothing");
        fails("(set! nothing 1)", "\"unbound\" nothing");
        fails("((car (list nothing)))", "\"unbound\" nothing");
        due("\"s\"", "\"s\"");
        due("#(1 a ())", "#(1 a ())");
        due("#u8(1)", "#u8(1)");
        due("#\\a", "#\\a");
        fails("(5)", "\"call\" 5");
        fails("(\"s\" 1)", "\"call\" \"s\"");
        fails("('(1))", "\"call\" (1)");
    }

    // "(quote D): a copy of D: its pairs and VECTORS are made anew (each as often as it stands there), .. other DATA are
    // the same objects"
    private void quoted() {
        fresh();
        due("(define q '(#0=(1) #0# \"s\")) (eq? (car q) (cadr q))", "#f");
        due("(define (f) \"s\") (eq? (f) (f))", "#t");
        due("(string-set! (f) 0 #\\t) (f)", "\"t\"");
        due("(define (g) '(\"s\")) (string-set! (car (g)) 0 #\\t) (g)", "(\"t\")");
        due("(define-syntax same (syntax-rules () ((_ x) (eq? 'x 'x)))) (list (same (1)) (same #(1)) (same \"s\") (same a)"
            + " (same ()) (same #u8(1)) (same 1.5))", "(#f #f #t #t #t #t #t)");
        due("(quote ())", "()");
        due("''a", "(quote a)");
    }

    // "FORMALS a list of different IDENTIFIERS, or with another one behind a ., or one alone"
    private void formals() {
        fresh();
        String[] forms = {"(lambda (x x) 1)", "(lambda (x y x) 1)", "(lambda (x . x) 1)", "(lambda (5) 1)", "(lambda (x . 5) 1)",
            "(lambda 5 1)", "(lambda \"x\" 1)", "(lambda ((x)) 1)", "(lambda (x \"y\") 1)", "(lambda #(x) 1)"};
        for (String form : forms) syntax(form, form);
        syntax("(define (f x x) 1)", "(define (f x x) 1)");
        syntax("(define (f . 5) 1)", "(define (f . 5) 1)");
        due("((lambda () 1))", "1");
        due("((lambda x x))", "()");
        due("((lambda x x) 1 2)", "(1 2)");
        due("((lambda (x . y) (list x y)) 1)", "(1 ())");
        due("((lambda (x . y) (list x y)) 1 2 3)", "(1 (2 3))");
        due("(define (f f . g) (list f g)) (f 1 2)", "(1 (2))");
        due("((lambda (if) (if 1)) -)", "-1");
        due("(define-syntax two (syntax-rules () ((_ x) (lambda (x y) (list x y))))) ((two y) 1 2)", "(1 2)");
    }

    // "the first other one, and all behind it, are EXPRESSIONS (one at least; a definition there is "syntax", as one
    // IDENTIFIER defined twice)"; "of .. FORMALS, a BODY the form"
    private void bodies() {
        fresh();
        syntax("(lambda () (define x 1))", "(lambda () (define x 1))");
        syntax("(lambda () (begin))", "(lambda () (begin))");
        syntax("(lambda () (define-syntax a (syntax-rules ())))", "(lambda () (define-syntax a (syntax-rules ())))");
        syntax("(define (f) (define x 1))", "(define (f) (define x 1))");
        syntax("(let-syntax () (define x 1))", "(let-syntax () (define x 1))");
        syntax("(lambda () 1 (define x 2) x)", "(define x 2)");
        syntax("(lambda () (begin 1 (define x 2)) x)", "(define x 2)");
        syntax("(lambda () (define y 1) y (define x 2) x)", "(define x 2)");
        syntax("(lambda () 1 (define-syntax a (syntax-rules ())))", "(define-syntax a (syntax-rules ()))");
        syntax("(lambda () 1 (begin))", "(begin)");
        for (String two : new String[] {"(define x 1) (define x 2)", "(define x 1) (define (x) 2)",
            "(define x 1) (define-syntax x (syntax-rules ()))", "(define-syntax x (syntax-rules ())) (define x 1)",
            "(define-syntax x (syntax-rules ())) (define-syntax x (syntax-rules ()))", "(define x 1) (begin (define x 2))"}) {
            syntax("(lambda () " + two + " x)", "(lambda () " + two + " x)");
        }
        due("((lambda () (define x 1) (begin (define y 2) (begin)) (begin (define z 3) (list x y z))))", "(1 2 3)");
        due("((lambda (x) (define x 2) x) 1)", "2");
        due("((lambda (x) (define (x) 2) (x)) 1)", "2");
        due("((lambda () (begin) (begin 1 2)))", "2");
        due("((lambda () (define-syntax d (syntax-rules () ((_ n v) (define n v)))) (d x 1) (d y 2) (list x y)))", "(1 2)");
        due("((lambda () (define-syntax t (syntax-rules () ((_ n v) (begin (define t v) (define n t))))) (t a 1) (t b 2)"
            + " (list a b)))", "(1 2)");
    }

    // "define (whose IDENTIFIER is bound in the scope, without a value) and define-syntax (bound then)"; "Then the
    // definitions are evaluated in order, then the EXPRESSIONS"
    private void bodyDefinitions() {
        fresh();
        due("(define x 'outer) (define (f) (define (g) x) (define x 'inner) (g)) (f)", "inner");
        due("((lambda () (define (even n) (if (= n 0) #t (odd (- n 1)))) (define (odd n) (if (= n 0) #f (even (- n 1))))"
            + " (even 10)))", "#t");
        due("((lambda () (define a 1) (define b (+ a 1)) (define c (+ b 1)) (list a b c)))", "(1 2 3)");
        due("(define-syntax m (syntax-rules () ((_) 'outer))) ((lambda () (define (f) (m)) (define-syntax m"
            + " (syntax-rules () ((_) 'inner))) (f)))", "inner");
        due("((lambda () (define if list) (if 1 2 3)))", "(1 2 3)");
        due("((lambda () (define define list) (define 1 2)))", "(1 2)");
        syntax("((lambda () (define-syntax a 5) 1))", "5");
        // a BODY that has MACROS alone, within others
        due("((lambda (x) ((lambda () (define-syntax m (syntax-rules () ((_) x))) (list x (m))))) 5)", "(5 5)");
        due("((lambda (x) ((lambda () (define-syntax m (syntax-rules () ((_) x))) ((lambda (y) (list x y (m))) 6)))) 5)",
            "(5 6 5)");
        due("((lambda (x) (let-syntax ((m (syntax-rules () ((_) x)))) ((lambda () (define y (m)) (list x y))))) 5)", "(5 5)");
    }

    // ""unassigned" .. of a scope"; "a scope's PLACE gets it even if it had none"
    private void unassigned() {
        fresh();
        fails("((lambda () (define a b) (define b 1) a))", "\"unassigned\" b");
        fails("((lambda () (define a a) a))", "\"unassigned\" a");
        fails("(letrec ((a b) (b 1)) a)", "\"unassigned\" b");
        due("((lambda () (define a (set! b 5)) (define b b) b))", "5");
        due("((lambda () (define a (set! b 5)) (define b 6) b))", "6");
        fails("(define c c)", "\"unbound\" c");
        fails("(set! c 1)", "\"unbound\" c");
        due("(define c 1) (set! c (+ c 1)) c", "2");
        // "set! reckons the value first"
        fails("(set! nothing (car 5))", "\"type\" car 5");
    }

    // "(let-syntax ((ID RULES) ...) BODY), (letrec-syntax ..): (( lambda ( ) BODY )) with these MACROS around it (whose
    // RULES are of the environment outside, inside)"
    private void letSyntax() {
        fresh();
        due("(define-syntax b (syntax-rules () ((_) 'outside)))", "#<unspecified>");
        String both = " ((a (syntax-rules () ((_) (b)))) (b (syntax-rules () ((_) 'inside)))) (a))";
        due("(let-syntax" + both, "outside");
        due("(letrec-syntax" + both, "inside");
        due("(let-syntax ((a (syntax-rules () ((_) 1)))) (define x (a)) (+ x 1))", "2");
        fails("(let-syntax () (define lost 1) lost) lost", "\"unbound\" lost");
        syntax("(let-syntax ((a 5)) 1)", "5");
        syntax("(let-syntax ((a (syntax-rules))) 1)", "(syntax-rules)");
        due("(let-syntax ((a (syntax-rules () ((_) 1))) (a (syntax-rules () ((_) 2)))) (a))", "2");
    }

    // "Outermost: define gives the table's PLACE a value (of an ALIAS: of its SYMBOL; a new PLACE, if the SYMBOL MEANS a
    // MACRO, a CORE word, or a PLACE that came by import), define-syntax binds likewise"; "An outermost define reckons the
    // value first, then binds."
    private void outermostDefinitions() {
        fresh();
        due("(define x 1) (define (get) x) (define x 2) (get)", "2");
        due("(define-syntax d (syntax-rules () ((_ v) (define zz v)))) (d 4) zz", "4");
        due("(define-syntax e (syntax-rules () ((_) (define-syntax yy (syntax-rules () ((_) 6)))))) (e) (yy)", "6");
        due("(define or 5) or", "5");
        due("(define (if2) (if #f 1 2)) (define if 7) (list if (if2))", "(7 2)");
        due("(define-syntax x (syntax-rules () ((_) 'macro))) (list (x) (get))", "(macro 2)");
        due("(define x 3) (list x (get))", "(3 2)");
        h.due("(define-library (l) (export v get-v set-v) (import (scheme base)) (begin (define v 1) (define (get-v) v)"
            + " (define (set-v x) (set! v x))))", 0, "#<unspecified>");
        due("(import (l)) (set! v 2) (get-v)", "2");
        due("(define v 3) (list v (get-v))", "(3 2)");
        due("(define v 4) (set! v 5) (list v (get-v))", "(5 2)");
        due("(import (l)) (set-v 6) (list v (get-v))", "(6 6)");
        // the value is reckoned while the name still means what it meant
        due("(define-syntax w (syntax-rules () ((_) 8))) (define w (w)) w", "8");
        fails("(define u (u))", "\"unbound\" u");
        // %stop was defined in fresh(): the PRELUDE's raise has the same PLACE
        fails("(raise '(\"a\" b))", "\"a\" b");
    }

    // "begin's FORMS are outermost one by one (each expanded when those ahead are done) ..; each of them is an outermost
    // form of its own for CONTINUATIONS, HANDLERS, PARAMETERS, %winds"
    private void outermostBegin() {
        fresh();
        due("(begin (define-syntax m (syntax-rules () ((_) 1))) (m))", "1");
        due("(begin (begin (define n 2)) (begin (begin n)))", "2");
        h.due("(begin (display 1) (if))", 1, "(\"syntax\" (if))");
        h.due("OUTPUT", h.told(0), "1");
        h.due("forms done", h.get().count(8), 0);
        fails("(begin (define k (%call/cc (lambda (c) c))) (k 1))", "\"dead\"");
        due("(begin (define k (%call/cc (lambda (c) c))) (procedure? k))", "#t");
        due("1 (begin 2 3) 4", "4");
        h.due("forms done", h.get().count(8), 3);
        h.due("1 (begin 2 (stop 3)) 4", 1, "3");
        h.due("forms done", h.get().count(8), 1);
        h.due("1 (begin 2 (let loop () (loop)))", 2, "1");
        h.due("(begin 2 (let loop () (loop)))", 2, "");
    }

    // "(syntax-error "..." D ...): a "syntax" condition with the D, without ALIASES"; "of syntax-error the string (a new
    // one) and the D"
    private void syntaxErrors() {
        fresh();
        fails("(syntax-error \"bad\")", "\"bad\"");
        fails("(syntax-error \"bad\" x (y . 1) #(z) \"s\")", "\"bad\" x (y . 1) #(z) \"s\"");
        due("(define-syntax m (syntax-rules () ((_ x) (syntax-error \"bad\" x (y #(z))))))", "#<unspecified>");
        fails("(m 5)", "\"bad\" 5 (y #(z))");
        fails("(lambda () 1 (m 6))", "\"bad\" 6 (y #(z))");
        due("(define-syntax bad (syntax-rules () ((_ x) (if x))))", "#<unspecified>");
        syntax("(bad 1)", "(if 1)");
        due("(define-syntax none (syntax-rules () ((_ 1) 1)))", "#<unspecified>");
        syntax("(none 2)", "(none 2)");
        syntax("(none . 2)", "(none . 2)");
        due("(define-syntax use (syntax-rules () ((_ x) (none x y))))", "#<unspecified>");
        syntax("(use #(2))", "(none #(2) y)");
        due("(define (catch) (guard (e (#t 'caught)) (none 1))) (catch)", "1");
    }

    // "A "syntax" condition is raised when the outermost form is expanded, ahead of evaluating any of it (of begin: of that
    // part), with no handlers."; "It is raised by applying the PRELUDE's raise (.. whatever raise is now)."
    private void syntaxBeforeEvaluating() {
        fresh();
        syntax("((lambda () (display 1) (if)))", "(if)");
        h.due("OUTPUT", h.told(0), "");
        syntax("(guard (e (#t 'caught)) (if))", "(if)");
        syntax("(with-exception-handler (lambda (e) 1) (lambda () (if)))", "(if)");
        due("(guard (e (#t (error-object-message e))) (car 1))", "\"type\"");
        due("(define (raise x) 'mine) (raise 1)", "mine");
        syntax("(if)", "(if)");
        fails("(car 1)", "\"type\" car 1");
        syntax("(define late (list 1 (if)))", "(if)");
        fails("late", "\"unbound\" late");
    }

    // "RULES that aren't so (an IDENTIFIER twice in a PATTERN, two ELLIPSES in a list, a TEMPLATE's IDENTIFIER under fewer
    // ELLIPSES than in the PATTERN, an ELLIPSIS behind a part without such an IDENTIFIER) are "syntax" when they are
    // bound."; "Of RULES the irritant is what stands there"
    private void rulesThatAreNotSo() {
        fresh();
        String[] heads = {"(syntax-rules)", "(syntax-rules 5)", "(syntax-rules (5))", "(syntax-rules (a . b))",
            "(syntax-rules own)", "(syntax-rules own 5)", "(syntax-rules () . 5)", "(syntax-rules () ())", "5", "x", "()",
            "(list ())", "(syntax-rules #())", "\"s\"", "(syntax-rules (a \"b\"))", "(syntax-rules own (a 1))"};
        for (String whole : heads) syntax("(define-syntax m " + whole + ")", whole);
        String[] rules = {"5", "((_))", "((_) 1 2)", "((_) . 1)", "(x 1)", "(() 1)", "(#(_) 1)", "((_ a a) 1)", "((_ a (b a)) 1)",
            "((_ a . a) 1)", "((_ #(a) a) 1)", "((_ a ... a) 1)", "((_ a ... b ...) 1)", "((_ a ... ...) 1)", "((_ ...) 1)",
            "((_ (...)) 1)", "((_ . ...) 1)", "((_ #(...)) 1)", "((_ #(a ... b ...)) 1)", "((_ (a ... b ...)) 1)", "((_ a ...) a)",
            "((_ a ...) (a))", "((_ (a ...) ...) (a ...))", "((_ (a ...) ...) a)", "((_ a) (a ...))", "((_ a) (b ...))",
            "((_) (1 ...))", "((_ a ...) (a ... ...))", "((_ a ...) ((b ...) a ...))", "((_ a ...) ((a b ...) ...))",
            "((_) ...)", "((_) (...))", "((_) (... a b))", "((_) (... . a))", "((_) (... ... ...))", "((_) (a . ...))",
            "((_) #(...))", "((_ a ...) (... (a ...)))", "((_ a ...) #(a))", "((_ a) #(a ...))"};
        for (String rule : rules) {
            syntax("(define-syntax m (syntax-rules () " + rule + "))", "(syntax-rules () " + rule + ")");
            syntax("(lambda () (define-syntax m (syntax-rules () " + rule + ")) 1)", "(syntax-rules () " + rule + ")");
            syntax("(let-syntax ((m (syntax-rules () ((_) 1) " + rule + "))) 1)", "(syntax-rules () ((_) 1) " + rule + ")");
        }
        fails("(m)", "\"unbound\" m");
    }

    // "A PATTERN is a list, proper or not; its first part is not looked at"; "... is the ELLIPSIS else (but if it is a
    // LITERAL, it is none)"; "an own ELLIPSIS is just this IDENTIFIER"; "with (ELLIPSIS T) for T in which it is none"
    private void rulesThatAreSo() {
        fresh();
        String[] rules = {"((5 x) x)", "((... x) x)", "(((a a) x) x)", "((x x) x)", "((#(1) . x) 'x)"};
        for (String rule : rules) {
            due("(define-syntax m (syntax-rules () " + rule + ")) (m 1)", rule.contains("'x") ? "(1)" : "1");
        }
        due("(define-syntax m (syntax-rules (...) ((_ a ...) '(a ...)))) (m 1 ...)", "(1 ...)");
        syntax("(m 1 2)", "(m 1 2)");
        due("(define-syntax m (syntax-rules ::: () ((_ a :::) '(a ::: ...)))) (m 1 2)", "(1 2 ...)");
        due("(define-syntax m (syntax-rules () ((_ a ...) '(a ... (... ...))))) (m 1 2)", "(1 2 ...)");
        due("(define-syntax m (syntax-rules () ((_ a) '(... (a ... (... ...)))))) (m 1)", "(1 ... (... ...))");
        due("(define-syntax m (syntax-rules () ((_ a) '(... #(... a))))) (m 1)", "#(... 1)");
        due("(define-syntax m (syntax-rules () ((_ (a ...) ...) '(a ... ...)))) (list (m) (m ()) (m (1 2) () (3)))",
            "(() () (1 2 3))");
        due("(define-syntax m (syntax-rules () ((_ ((a ...) ...) ...) '(a ... ... ...)))) (m ((1) (2 3)) () ((4)))",
            "(1 2 3 4)");
        due("(define-syntax m (syntax-rules () ((_ (a b ...) ...) '((a (b ...)) ...)))) (m (1) (2 3 4))", "((1 ()) (2 (3 4)))");
        due("(define-syntax m (syntax-rules () ((_ k (a ...) ...) '((k a ...) ...)))) (m 9 (1) (2 3))", "((9 1) (9 2 3))");
        due("(define-syntax m (syntax-rules () ((_ (a ...) (b ...) ...) '((a ...) (((a b) ...) ...) (a ...)))))"
            + " (m (1 2) (3 4) (5))", "((1 2) (((1 3) (1 4)) ((2 5))) (1 2))");
        due("(define-syntax m (syntax-rules () ((_ a ... . r) '(a ... . r)))) (list (m) (m 1) (m 1 . 2) (m . 3))",
            "(() (1) (1 . 2) 3)");
        due("(define-syntax m (syntax-rules (_) ((m _) 'under) ((m x) 'other))) (list (m _) (m 5))", "(under other)");
        due("(define-syntax m (syntax-rules () ((_ _ _) 'two))) (m 1 2)", "two");
        // an ELLIPSIS of its own is just this IDENTIFIER, ... is another one then
        due("(define-syntax m (syntax-rules dots () ((_ ... dots) '(... dots)))) (m 1 2)", "(1 2)");
    }

    // "lists, with one ELLIPSIS behind some part (as many as there are, but for those that the parts behind need), and
    // perhaps a last part behind a ., VECTORS likewise"; "so is one in which parts under one ELLIPSIS have other numbers"
    private void ellipsisParts() {
        fresh();
        due("(define-syntax m (syntax-rules () ((_ a ... b c) '((a ...) b c)))) (list (m 1 2) (m 1 2 3) (m 1 2 3 4))",
            "((() 1 2) ((1) 2 3) ((1 2) 3 4))");
        syntax("(m 1)", "(m 1)");
        syntax("(m)", "(m)");
        syntax("(m 1 2 . 3)", "(m 1 2 . 3)");
        due("(define-syntax m (syntax-rules () ((_ a ... b . c) '((a ...) b c)))) (list (m 1) (m 1 2 . 3) (m 1 . 2))",
            "((() 1 ()) ((1) 2 3) (() 1 2))");
        syntax("(m . 1)", "(m . 1)");
        due("(define-syntax m (syntax-rules () ((_ #(a ... b)) '((a ...) b)))) (list (m #(1)) (m #(1 2 3)))",
            "((() 1) ((1 2) 3))");
        syntax("(m #())", "(m #())");
        syntax("(m (1))", "(m (1))");
        due("(define-syntax m (syntax-rules () ((_ #(a b)) '(a b)))) (m #(1 2))", "(1 2)");
        syntax("(m #(1))", "(m #(1))");
        syntax("(m #(1 2 3))", "(m #(1 2 3))");
        due("(define-syntax m (syntax-rules () ((_ (a ...) (b ...)) '((a b) ...)))) (list (m () ()) (m (1 2) (3 4)))",
            "(() ((1 3) (2 4)))");
        syntax("(m (1 2) (3))", "(m (1 2) (3))");
        syntax("(m (1) (2 3))", "(m (1) (2 3))");
        syntax("(m () (1))", "(m () (1))");
        due("(define-syntax m (syntax-rules () ((_ a b) '(a b)))) (m 1 2)", "(1 2)");
        for (String use : new String[] {"(m)", "(m 1)", "(m 1 2 3)", "(m 1 2 . 3)", "(m 1 . 2)"}) syntax(use, use);
        // "A ring is no list, and no ELLIPSIS goes through it."
        due("(define-syntax m (syntax-rules () ((_ (a ...)) 'list) ((_ (a ... . b)) 'end) ((_ (a . b)) 'pair) ((_ a) 'other)))",
            "#<unspecified>");
        due("(list (m (1 2)) (m (1 . 2)) (m #0=(1 . #0#)) (m 5))", "(list end pair end)");
    }

    // "a LITERAL (an IDENTIFIER that MEANS the same in the use's environment as that one in the MACRO's; both the same
    // SYMBOL without a binding, too)"; "a PLACE without a value in a table is no binding"
    private void literals() {
        fresh();
        due("(cond (else 1))", "1");
        due("(let ((else #f)) (cond (else 1)))", "#<unspecified>");
        fails("else", "\"unbound\" else");
        due("(cond (else 2))", "2");
        due("(define-syntax m (syntax-rules (lit) ((_ lit) 'lit) ((_ x) 'other))) (list (m lit) (m lot) (m 5))",
            "(lit other other)");
        due("(let ((lit 1)) (m lit))", "other");
        due("(define lit 1) (m lit)", "lit");
        due("(let-syntax ((lit (syntax-rules ()))) (m lit))", "other");
        due("(define-syntax n (syntax-rules () ((_) (m lit)))) (n)", "lit");
        // in a library's table the SYMBOL has no value, in the house's it has: they mean different things
        due("(define-library (a) (export r) (import (scheme base)) (begin (define r (cond (else 1)))))", "#<unspecified>");
        due("(import (a)) r", "1");
        due("(define-library (b) (export r) (import (scheme base)) (begin (define else #f) (define r (cond (else 1)))))",
            "#<unspecified>");
        due("(import (b)) r", "#<unspecified>");
    }

    // "other DATA (equal?)"
    private void otherData() {
        fresh();
        due("(define-syntax m (syntax-rules () ((_ 1) 'one) ((_ 1.) 'flonum) ((_ \"s\") 'string) ((_ #\\a) 'char) ((_ #u8(1 2))"
            + " 'bytes) ((_ ()) 'empty) ((_ #t) 'true) ((_ 1/2) 'half) ((_ 0.0) 'zero) ((_ +nan.0) 'nan)"
            + " ((_ 100000000000000000000) 'big) ((_ x) 'no)))", "#<unspecified>");
        due("(list (m 1) (m 1.) (m \"s\") (m #\\a) (m #u8(1 2)) (m ()) (m #t) (m 2/4) (m 0.) (m +nan.0)"
            + " (m 100000000000000000000))", "(one flonum string char bytes empty true half zero nan big)");
        due("(list (m 2) (m \"S\") (m \"\") (m #\\b) (m #u8(1 3)) (m #u8(1)) (m (1)) (m #f) (m -0.0)"
            + " (m -100000000000000000000))", "(no no no no no no no no no no)");
    }

    // "IDENTIFIERS that aren't the PATTERN's become ALIASES, new for each use, one for each"
    private void aliases() {
        fresh();
        due("(define-syntax swap (syntax-rules () ((_ a b) (let ((tmp a)) (set! a b) (set! b tmp))))) (define tmp 1)"
            + " (define other 2) (swap tmp other) (list tmp other)", "(2 1)");
        due("(define-syntax m (syntax-rules () ((_ e) (let ((if list)) e)))) (m (if #f 1 2))", "2");
        due("(define-syntax f (syntax-rules () ((_) (car '(1))))) (let ((car cdr) (quote 5)) (f))", "1");
        due("(define-syntax g (syntax-rules () ((_ x) (lambda (x y) (+ x y))))) ((g y) 1 2)", "3");
        syntax("((lambda () (define-syntax d (syntax-rules () ((_) (begin (define t 1) (define t 2))))) (d) 1))",
            "(lambda () (define-syntax d (syntax-rules () ((_) (begin (define t 1) (define t 2))))) (d) 1)");
        due("((lambda () (define-syntax d (syntax-rules () ((_) (define t 1)))) (d) (d) 1))", "1");
        due("'(a . #(b))", "(a . #(b))");
        due("(define-syntax q (syntax-rules () ((_) '(a #(b) . c)))) (list (q) (eq? (car (q)) 'a))", "((a #(b) . c) #t)");
    }

    // "APPLYING: .. of another number of operands than it takes "arity" (irritant: it); of what is no procedure "call""
    private void applying() {
        fresh();
        for (String call : new String[] {"(car)", "(car 1 2)", "((lambda (x) x))", "((lambda (x) x) 1 2)", "((lambda (x . y) x))",
            "((lambda () 1) 2)", "((%case-lambda))", "((case-lambda ((x) 1) ((x y) 2)))", "((case-lambda ((x) 1)) 1 2)",
            "((make-parameter 1) 2)", "(vector-ref #(1))", "(eof-object 1)", "(apply car '(1 2))", "(%parameters 1)",
            "((lambda (x y . z) 1) 1)"}) {
            fails(call, "\"arity\" #<procedure>");
        }
        due("((lambda (x . y) y) 1)", "()");
        due("((case-lambda ((x) 1) ((x . y) 2) (z 3)))", "3");
        due("(map (case-lambda ((x) 1) ((x y) 2) ((x . z) 3)) '(1 2))", "(1 1)");
        due("((case-lambda ((x) 1) ((x y) 2) ((x . z) 3)) 1 2 3)", "3");
        fails("(5 (car 6))", "\"type\" car 6");
        fails("(5 6)", "\"call\" 5");
        fails("((if #f #f))", "\"call\" #<unspecified>");
        fails("(apply (lambda (x) x) '())", "\"arity\" #<procedure>");
        // its parts are evaluated from the left, the operator first
        fails("((car 1) (cdr 2))", "\"type\" car 1");
        fails("(list (car 1) (cdr 2))", "\"type\" car 1");
    }

    // "(values A) is A; otherwise an object of these VALUES, which call-with-values gives one by one"
    private void values() {
        fresh();
        due("(values 1)", "1");
        due("(list (values) (values 1 2))", "(#<values> #<values>)");
        due("(call-with-values (lambda () (values)) list)", "()");
        due("(call-with-values (lambda () (values 1)) list)", "(1)");
        due("(call-with-values (lambda () (values 1 2 3)) list)", "(1 2 3)");
        due("(call-with-values (lambda () 5) list)", "(5)");
        due("(call-with-values (lambda () (call/cc (lambda (k) (k 1 2)))) list)", "(1 2)");
        due("(call-with-values (lambda () (call/cc (lambda (k) (k)))) list)", "()");
        due("(begin (values 1 2) 3)", "3");
        fails("(call-with-values 5 list)", "\"type\" call-with-values 5");
        fails("(call-with-values list 5)", "\"type\" call-with-values 5");
    }

    // "Of another outermost form than the one at work it is "dead" (without irritants). HANDLERS, PARAMETERS are lists,
    // ( ) at each outermost form's beginning, and then %winds is ( )."
    private void continuations() {
        fresh();
        due("(define k #f) (+ 1 (%call/cc (lambda (c) (set! k c) 1)))", "2");
        fails("(k 1)", "\"dead\"");
        due("(guard (e (#t (list (error-object-message e) (error-object-irritants e)))) (k 1))", "(\"dead\" ())");
        due("(let ((n 0)) (call/cc (lambda (c) (set! k c))) (set! n (+ n 1)) (if (< n 3) (k 1)) n)", "3");
        due("(let ((r '())) (let ((v (call/cc (lambda (c) (set! k c) 0)))) (set! r (cons v r)) (if (< v 3) (k (+ v 1)))"
            + " (reverse r)))", "(0 1 2 3)");
        due("(list (%handlers) (%parameters) %winds)", "(() () ())");
        h.due("(dynamic-wind list (lambda () (parameterize () (with-exception-handler list (lambda () (stop 1))))) list)", 1, "1");
        due("(list (%handlers) (%parameters) %winds)", "(() () ())");
        h.due("(dynamic-wind list (lambda () (stop %winds)) list)", 1, "((#<procedure> . #<procedure>))");
        due("%winds", "()");
        due("(define p (make-parameter 1)) (define saved #f) (parameterize ((p 2)) (set! saved (%parameters)) (p))", "2");
        due("(list (p) (length saved))", "(1 1)");
    }

    // "A CONDITION of the house: in place of the answer the PRELUDE's raise is applied to an ERROR OBJECT with the message
    // told (a new string) and irritants told (a new list)."; "Of one application: "arity", then "type", then the others."
    private void conditions() {
        fresh();
        fails("(car 'a 'b)", "\"arity\" #<procedure>");
        fails("(vector-ref 'v 'i)", "\"type\" vector-ref v");
        fails("(vector-ref #(1) 'i)", "\"type\" vector-ref i");
        fails("(vector-ref #(1) 1)", "\"range\" vector-ref 1");
        fails("(vector-set! #(1) 5)", "\"arity\" #<procedure>");
        fails("(quotient 1 0)", "\"zero\" quotient");
        fails("(string-set! \"a\" 5 5)", "\"type\" string-set! 5");
        fails("(string-set! \"a\" 5 #\\a)", "\"range\" string-set! 5");
        due("(define (m) (guard (e (#t (error-object-message e))) (car 1))) (eq? (m) (m))", "#f");
        due("(define (i) (guard (e (#t (error-object-irritants e))) (car 1))) (eq? (i) (i))", "#f");
        due("(with-exception-handler (lambda (e) 10) (lambda () (+ 1 (raise-continuable 5))))", "11");
        fails("(with-exception-handler (lambda (e) 10) (lambda () (+ 1 (raise 5))))", "\"handled\" 5");
        fails("(with-exception-handler (lambda (e) 10) (lambda () (car 5)))", "\"handled\" #<error type>");
        h.due("(raise 5)", 1, "5");
        h.due("(error \"m\" 1 2)", 1, "(\"m\" 1 2)");
    }

    // "NAME a list of SYMBOLS and exact integers"; "NAME has one part at least, integers from 0 on"; "what isn't as told in
    // them .. is "syntax" with the whole form"
    private void libraryNames() {
        fresh();
        for (String name : new String[] {"()", "5", "a", "\"a\"", "#(a)", "(a . b)", "(-1)", "(1.0)", "(1/2)", "(a \"b\")", "(a (b))",
            "(#t)", "(a -100000000000000000000)", "(#\\a)"}) {
            syntax("(define-library " + name + ")", "(define-library " + name + ")");
            syntax("(import " + name + ")", "(import " + name + ")");
        }
        h.due("libraries", h.get().count(7), 0);
        for (String name : new String[] {"(a)", "(0)", "(a 0 b)", "(100000000000000000000)", "(only a)", "(a b)"}) {
            due("(define-library " + name + ")", "#<unspecified>");
            due("(import " + name + ")", "#<unspecified>");
        }
        h.due("libraries", h.get().count(7), 6);
        due("(define-library (only a))", "#<unspecified>");
        h.due("libraries", h.get().count(7), 6);
        syntax("(import (b))", "(import (b))");
        syntax("(import (a 0))", "(import (a 0))");
        syntax("(import (a 1 b))", "(import (a 1 b))");
        syntax("(import (100000000000000000001))", "(import (100000000000000000001))");
        syntax("(import (a 100000000000000000000 b))", "(import (a 100000000000000000000 b))");
        syntax("(import (a 0 b c))", "(import (a 0 b c))");
        syntax("(import (a b 0))", "(import (a b 0))");
    }

    // "DECLARATIONS: (export ID ..) or (rename ID ID) in it, (import SETS), (begin FORMS)"; "A name exported twice .. [is]
    // "syntax""; "What goes wrong in define-library leaves an old one of the NAME."
    private void libraryDeclarations() {
        fresh();
        due("(define-library (l) (export x) (import (scheme base)) (begin (define x 'old)))", "#<unspecified>");
        for (String part : new String[] {"x", "5", "()", "(x)", "(export . x)", "(export 5)", "(export \"x\")", "(export (x))",
            "(export (rename x))", "(export (rename x y z))", "(export (rename x 5))", "(export (rename 5 x))",
            "(export (other x y))", "(export (rename x . y))", "(export x x)", "(export x) (export x)",
            "(export (rename y x) x)", "(export (rename x a) (rename y a))", "(begin . x)", "(import . x)", "(import 5)",
            "(import (nowhere))", "(include x)", "(define x 1)", "#(begin)"}) {
            String form = "(define-library (l) " + part + ")";
            syntax(form, form);
            h.due("(import (l)) x", 0, "old");
        }
        syntax("(define-library (l) . x)", "(define-library (l) . x)");
        fails("(define-library (l) (export x) (import (scheme base)) (begin (define x 'new) (car 5)))", "\"type\" car 5");
        due("(import (l)) x", "old");
        syntax("(define-library (l) (export x) (import (scheme base)) (begin (define x 'new) (if)))", "(if)");
        due("(import (l)) x", "old");
        syntax("(define-library (l) (import (scheme base)) (begin (define-library (m))))", "(define-library (m))");
        due("(define-library (l) (export) (begin) (import) (export x (rename x y) (rename z w)) (begin (define x 'new)) (begin)"
            + " (import (scheme base)))", "#<unspecified>");
        due("(import (l)) (list x y)", "(new new)");
        fails("w", "\"unbound\" w");
    }

    // "IMPORT SETS: NAME, (only SET ID ..), (except SET ID ..), (prefix SET ID), (rename SET (ID ID) ..)"; "what isn't
    // exported, a NAME that isn't there, is "syntax""; "an IDENTIFIER told twice in rename, two names of a SET that rename
    // makes the same are "syntax""
    private void importSets() {
        fresh();
        due("(define-library (l) (export a b) (import (scheme base)) (begin (define a 1) (define b 2)))", "#<unspecified>");
        for (String set : new String[] {"(nowhere)", "(only (l) c)", "(only (l) 5)", "(except (l) c)", "(prefix (l))",
            "(prefix (l) a b)", "(prefix (l) 5)", "(prefix (l) (a))", "(rename (l) a)", "(rename (l) (a))", "(rename (l) (a b c))",
            "(rename (l) (c d))", "(rename (l) (a 5))", "(rename (l) (5 a))", "(rename (l) (a c) (a d))", "(rename (l) (a b))",
            "(rename (l) (a c) (b c))", "(only (l) . a)", "(only)", "(prefix l- (l))", "(only (only (l) a) b)",
            "(except (except (l) a) a)", "(only (prefix (l) x) a)", "(rename (l) (a . c))", "(other (l) a)"}) {
            String form = "(import " + set + ")";
            syntax(form, form);
            syntax("(import (l) " + set + ")", "(import (l) " + set + ")");
            syntax("(define-library (z) (import " + set + "))", "(define-library (z) (import " + set + "))");
        }
        fails("a", "\"unbound\" a");
        due("(import (only (l)))", "#<unspecified>");
        fails("a", "\"unbound\" a");
        due("(import (except (l) a b)) (import (prefix (l) l-)) (list l-a l-b)", "(1 2)");
        due("(import (rename (l) (a b) (b a))) (list a b)", "(2 1)");
        due("(import (only (l) a)) (list a b)", "(1 1)");
        due("(import (prefix (only (rename (l) (a q)) q) p-) (except (l) a)) (list p-q b)", "(1 2)");
        due("(import (prefix (l) ||)) (list a b)", "(1 2)");
        fails("q", "\"unbound\" q");
    }

    // "(scheme base) and any NAME that begins with scheme export all that the house's table has at first but names that
    // begin with %"; "An import takes the place of what the table had."; "What is exported may be without a value."
    private void imports() {
        fresh();
        // the same PLACE, whatever its value is now; a define makes another one then
        due("(define square 5) (import (scheme base)) square", "5");
        due("(define square 6) (import (only (scheme base) square)) square", "5");
        due("(import (only (scheme) car) (only (scheme write) display) (only (scheme 5) cdr))", "#<unspecified>");
        syntax("(import (only (scheme base) %stop))", "(import (only (scheme base) %stop))");
        syntax("(import (only (scheme base) accessor))", "(import (only (scheme base) accessor))");
        syntax("(import (only (scheme base) else))", "(import (only (scheme base) else))");
        syntax("(import (scheme . base))", "(import (scheme . base))");
        syntax("(import (base scheme))", "(import (base scheme))");
        due("(define-library (scheme x) (export y) (import (scheme base)) (begin (define y 1)))", "#<unspecified>");
        h.due("libraries", h.get().count(7), 1);
        syntax("(import (only (scheme x) y))", "(import (only (scheme x) y))");
        due("(import (only (scheme x) car))", "#<unspecified>");
        due("(define-library (v) (export none))", "#<unspecified>");
        due("(import (v))", "#<unspecified>");
        fails("none", "\"unbound\" none");
        fails("(set! none 1)", "\"unbound\" none");
        due("(define none 2) none", "2");
        due("(define-library (m) (export (rename if wenn) mac) (import (scheme base)) (begin (define-syntax mac (syntax-rules ()"
            + " ((_) hidden))) (define hidden 'h)))", "#<unspecified>");
        due("(import (m)) (list (wenn #f 1 2) (mac))", "(2 h)");
        syntax("(import 5 (v))", "(import 5 (v))");
    }

    // "A library's table is empty at first"; "all imports come first, then FORMS in order"; "import may stand among a
    // library's FORMS"
    private void libraryTables() {
        fresh();
        fails("(define-library (l) (begin (define x 1)))", "\"unbound\" define");
        fails("(define-library (l) (begin (car 1)))", "\"unbound\" car");
        due("(define-library (l) (begin 1 \"s\"))", "#<unspecified>");
        due("(define-library (l) (export x) (begin (define x 1)) (import (scheme base)))", "#<unspecified>");
        due("(define-library (m) (export y) (import (only (scheme base) import)) (begin (import (scheme base)) (define y 2)))",
            "#<unspecified>");
        due("(import (l) (m)) (list x y)", "(1 2)");
        due("(define x 5) (define-library (n) (export get) (import (scheme base)) (begin (define x 6) (define (get) x)))"
            + " (import (n)) (list x (get))", "(5 6)");
        h.due("(define-library (o) (import (scheme base)) (begin (display 1)) (begin (display 2) (display 3)))", 0,
            "#<unspecified>");
        h.due("OUTPUT", h.told(0), "123");
    }

    // "At most 12 libraries, one told again takes the old one's place ("syntax" if there are 12)."
    private void twelveLibraries() {
        fresh();
        for (int i = 0; i < 12; i++) {
            due("(define-library (l " + i + ") (export x) (import (scheme base)) (begin (define x " + i + ")))", "#<unspecified>");
            h.due("libraries", h.get().count(7), i + 1);
        }
        syntax("(define-library (l 12))", "(define-library (l 12))");
        syntax("(define-library (scheme l))", "(define-library (scheme l))");
        h.due("libraries", h.get().count(7), 12);
        for (int i = 0; i < 12; i++) due("(import (l " + i + ")) x", Integer.toString(i));
        for (int i : new int[] {0, 5, 11}) {
            due("(define-library (l " + i + ") (export x) (import (scheme base)) (begin (define x 'again)))", "#<unspecified>");
            h.due("libraries", h.get().count(7), 12);
            due("(import (l " + i + ")) x", "again");
        }
        due("(import (l 6)) x", "6");
    }

    // "A library with more than 1000 exports .. [is] "syntax""
    private void thousandExports() {
        StringBuilder names = new StringBuilder();
        String signs = "abcdefghijklmnopqrstuvwxyzABCDEFGHIJKLMNOPQRSTUVWXYZ!$%&*/:<=>?^_~";
        int made = 0;
        for (int i = 0; i < signs.length() && made < 999; i++) {
            for (int j = 0; j < 20 && made < 999; j++) {
                names.append(signs.charAt(i)).append(signs.charAt(j)).append(' ');
                made++;
            }
        }
        h.fresh();
        h.due("(define-library (l) (export " + names + "last))", 0, "#<unspecified>");
        h.due("libraries", h.get().count(7), 1);
        h.due("(import (l))", 0, "#<unspecified>");
        h.due("(define-library (l) (export " + names + "last more))", 1, "#<error syntax>");
        h.due("(define-library (m) (export " + names + "last) (export more))", 1, "#<error syntax>");
        h.due("libraries", h.get().count(7), 1);
        h.due("(import (only (l) last))", 0, "#<unspecified>");
    }

    // "a prefixed name of more than 40 signs .. [is] "syntax""
    private void fortySigns() {
        fresh();
        String name = "n".repeat(10);
        due("(define-library (l) (export " + name + " m) (import (scheme base)) (begin (define " + name + " 1) (define m 2)))",
            "#<unspecified>");
        due("(import (prefix (l) " + "p".repeat(30) + ")) " + "p".repeat(30) + name, "1");
        syntax("(import (prefix (l) " + "p".repeat(31) + "))", "(import (prefix (l) " + "p".repeat(31) + "))");
        due("(import (prefix (only (l) m) " + "q".repeat(39) + ")) " + "q".repeat(39) + "m", "2");
        syntax("(import (prefix (only (l) m) " + "q".repeat(40) + "))", "(import (prefix (only (l) m) " + "q".repeat(40) + "))");
        due("(import (prefix (only (l)) " + "q".repeat(40) + "))", "#<unspecified>");
        due("(import (prefix (prefix (only (l) m) " + "r".repeat(20) + ") " + "s".repeat(19) + "))", "#<unspecified>");
        String form = "(import (prefix (prefix (only (l) m) " + "r".repeat(20) + ") " + "s".repeat(20) + "))";
        syntax(form, form);
    }

    // "SETS more than 100 in one another are "syntax"": 100 around a NAME are taken
    private void hundredSets() {
        h.fresh();
        h.due("(define-syntax i (syntax-rules () ((_ () s) (import s)) ((_ (x . y) s) (i y (only s car)))))", 0, "#<unspecified>");
        h.due("(i (" + "1 ".repeat(99) + ") (scheme base))", 0, "#<unspecified>");
        h.due("(i (" + "1 ".repeat(100) + ") (scheme base))", 0, "#<unspecified>");
        h.due("(i (" + "1 ".repeat(101) + ") (scheme base))", 1, "#<error syntax>");
        h.due("(i (" + "1 ".repeat(150) + ") (scheme base))", 1, "#<error syntax>");
    }
}
