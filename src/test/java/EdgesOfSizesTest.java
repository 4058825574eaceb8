/** How deep and how much: forms, RULES, D of quote, irritants, a use's things. The last allowed, the first that isn't. */
final class EdgesOfSizesTest {
    private static final String MANY = "#0=(" + "1 ".repeat(198) + "1)";
    private final House h = new House();

    public static void main(String[] args) {
        EdgesOfSizesTest test = new EdgesOfSizesTest();
        test.deepForms();
        test.deepBodies();
        test.deepDefinitions();
        test.deepLetSyntax();
        test.deepBegins();
        test.deepOutermost();
        test.deepWork();
        test.deepQuotes();
        test.manyQuoted();
        test.deepIrritants();
        test.manyIrritants();
        test.deepPatterns();
        test.deepTemplates();
        test.manyInPatterns();
        test.manyInTemplates();
        test.thingsOfOneEllipsis();
        test.thingsOfRows();
        test.thingsOfEachPattern();
        test.rings();
        House.finish();
    }

    /** A new house: errors are told as lists; (n (1 ..) E) is E so many begins deep. */
    private void fresh() {
        h.fresh();
        h.due("(define stop %stop) (define (%stop x) (stop (if (error-object? x) (cons (error-object-message x)"
            + " (error-object-irritants x)) x)))", 0, "#<unspecified>");
        h.due("(define-syntax n (syntax-rules () ((_ () e) e) ((_ (x . y) e) (n y (begin e)))))", 0, "#<unspecified>");
        h.due("(define-syntax m (syntax-rules () ((_) 'used)))", 0, "#<unspecified>");
        h.due("(define one 1)", 0, "#<unspecified>");
    }

    private static String ones(int n) {
        return "(" + "1 ".repeat(n) + ")";
    }

    /** The form so deep, in begins in an APPLICATION. */
    private static String deep(int depth, String form) {
        return depth == 0 ? form : "(values (n " + ones(depth - 1) + " " + form + "))";
    }

    /** The form stands so deep, within others: what it answers. */
    private void due(int depth, String form, String result) {
        h.due(deep(depth, form), 0, result);
    }

    private void syntax(int depth, String form, String irritant) {
        h.due(deep(depth, form), 1, "(\"syntax\" " + irritant + ")");
    }

    // "Each part is one deeper than the form it is part of (an outermost form 0 ..; what a MACRO use becomes as deep as
    // it): one at depth 251 is "syntax"."
    private void deepForms() {
        fresh();
        for (int depth : new int[] {0, 1, 249, 250}) {
            due(depth, "5", "5");
            due(depth, "one", "1");
            due(depth, "\"s\"", "\"s\"");
            due(depth, "#(1 (2))", "#(1 (2))");
            due(depth, "'((a))", "((a))");
            due(depth, "(m)", "used");
        }
        for (int depth : new int[] {251, 252}) {
            String[] forms = {"5", "one", "\"s\"", "#(1 (2))", "(quote ((a)))", "(m)", "()", "(car (quote (1)))", "(lambda () 1)",
                "(if 1 2)", "(n () 5)"};
            for (String form : forms) {
                if (depth == 251) syntax(depth, form, form);
                // the form around it is the first that is too deep
                else syntax(depth, form, "(begin " + form + ")");
            }
        }
        syntax(250, "()", "()");
        syntax(250, "(if)", "(if)");
        due(249, "(car '(1))", "1");
        syntax(250, "(car '(1))", "car");
        syntax(250, "(5 6)", "5");
        due(249, "(list)", "()");
        syntax(250, "(list)", "list");
        due(249, "(if #f 2 3)", "3");
        syntax(250, "(if #f 2 3)", "#f");
        due(249, "(set! one 2)", "#<unspecified>");
        syntax(250, "(set! one 3)", "3");
        due(248, "(car (list 5))", "5");
        syntax(249, "(car (list 5))", "list");
        due(247, "(n (1 1 1) 5)", "5");
        syntax(248, "(n (1 1 1) 5)", "5");
    }

    // "FORMS of a BODY one deeper than its lambda"
    private void deepBodies() {
        fresh();
        due(249, "(lambda () 5)", "#<procedure>");
        syntax(250, "(lambda () 5)", "5");
        syntax(250, "(lambda () one 5)", "one");
        due(248, "((lambda () 5))", "5");
        syntax(249, "((lambda () 5))", "5");
        syntax(250, "((lambda () 5))", "(lambda () 5)");
        due(248, "((lambda () (begin (begin 5))))", "5");
        due(248, "((lambda () (m)))", "used");
        due(248, "((lambda () (define-syntax d (syntax-rules () ((_) 7))) (d)))", "7");
        syntax(249, "((lambda () (define-syntax d (syntax-rules ())) 1))", "(define-syntax d (syntax-rules ()))");
    }

    // "(define (ID . F) BODY) is (define ID (lambda F BODY))"; "the irritant of a lambda of .. define that would be at 251
    // is .. the define"
    private void deepDefinitions() {
        fresh();
        due(247, "((lambda () (define y 5) y))", "5");
        syntax(248, "((lambda () (define y 5) y))", "5");
        syntax(249, "((lambda () (define y 5) y))", "(define y 5)");
        due(246, "((lambda () (define (y) 5) (if 1 2)))", "2");
        syntax(247, "((lambda () (define (y) 5) y))", "5");
        syntax(248, "((lambda () (define (y) 5) y))", "(define (y) 5)");
        syntax(249, "((lambda () (define (y) 5) y))", "(define (y) 5)");
    }

    // "let-syntax as told [an APPLICATION of a lambda of its BODY] (the irritant of a lambda of let-syntax .. that would be
    // at 251 is the let-syntax ..)"
    private void deepLetSyntax() {
        fresh();
        for (String name : new String[] {"let-syntax", "letrec-syntax"}) {
            due(248, "(" + name + " () 5)", "5");
            due(248, "(" + name + " ((d (syntax-rules () ((_) 7)))) (d))", "7");
            syntax(249, "(" + name + " () 5)", "5");
            syntax(250, "(" + name + " () 5)", "(" + name + " () 5)");
            syntax(250, "(" + name + " ((d 5)) 5)", "5");
            syntax(251, "(" + name + " ((d 5)) 5)", "(" + name + " ((d 5)) 5)");
        }
    }

    // "begin's FORMS in a BODY or outermost as deep as it, in an EXPRESSION one deeper"
    private void deepBegins() {
        fresh();
        due(249, "(begin 4 5)", "5");
        syntax(250, "(begin 4 5)", "4");
        due(247, "(begin (begin (begin 5)))", "5");
        syntax(248, "(begin (begin (begin 5)))", "5");
        h.due("(n " + ones(300) + " 5)", 0, "5");
        h.due("(begin (begin " + deep(250, "5") + "))", 0, "5");
        h.due("(begin (begin " + deep(251, "5") + "))", 1, "(\"syntax\" 5)");
        due(248, "((lambda () (begin (begin (begin 5)))))", "5");
        syntax(248, "((lambda () 4 (begin (begin 5))))", "(begin 5)");
        syntax(248, "((lambda () 4 (begin 5)))", "5");
        due(248, "((lambda () 4 5))", "5");
        due(247, "((lambda () 4 (begin 5)))", "5");
    }

    /** Values of outermost defines are at depth 1, their lambdas' BODIES at 2. */
    private void deepOutermost() {
        fresh();
        h.due("(define x (n " + ones(249) + " 5)) x", 0, "5");
        h.due("(define x (n " + ones(250) + " 5))", 1, "(\"syntax\" 5)");
        h.due("(define (f) " + deep(248, "6") + ") (f)", 0, "6");
        h.due("(define (f) " + deep(249, "6") + ")", 1, "(\"syntax\" 6)");
        h.due("(define-library (l) (export r) (import (scheme base)) (begin (define-syntax n (syntax-rules () ((_ () e) e)"
            + " ((_ (x . y) e) (n y (begin e))))) (define r (n " + ones(249) + " 7))))", 0, "#<unspecified>");
        h.due("(import (l)) r", 0, "7");
    }

    /** What is too deep is refused ahead of evaluating what stands ahead of it. */
    private void deepWork() {
        fresh();
        h.due("((lambda () (display 1) " + deep(249, "5") + "))", 1, "(\"syntax\" 5)");
        h.due("OUTPUT", h.told(0), "");
        h.due("((lambda () (display 1) " + deep(248, "5") + "))", 0, "5");
        h.due("OUTPUT", h.told(0), "1");
    }

    // "D of quote more than 250 deep .. (pairs' cars and VECTORS make it deeper ..)"
    private void deepQuotes() {
        fresh();
        h.due("(define-syntax q (syntax-rules () ((_ () e) 'e) ((_ (x . y) e) (q y (e)))))", 0, "#<unspecified>");
        h.due("(q " + ones(250) + " a)", 0, "(".repeat(250) + "a" + ")".repeat(250));
        h.due("(q " + ones(250) + " ())", 0, "(".repeat(250) + "()" + ")".repeat(250));
        h.due("(q " + ones(249) + " (a b))", 0, "(".repeat(250) + "a b" + ")".repeat(250));
        h.due("(q " + ones(250) + " #())", 0, "(".repeat(250) + "#()" + ")".repeat(250));
        // the irritant, (quote D), is too deep, too
        h.due("(q " + ones(251) + " a)", 1, "(\"syntax\")");
        h.due("(q " + ones(251) + " ())", 1, "(\"syntax\")");
        h.due("(q " + ones(251) + " #())", 1, "(\"syntax\")");
        h.due("(q " + ones(250) + " (a))", 1, "(\"syntax\")");
        h.due("(q " + ones(250) + " #(a))", 1, "(\"syntax\")");
        h.due("(define-syntax v (syntax-rules () ((_ () e) 'e) ((_ (x . y) e) (v y #(e)))))", 0, "#<unspecified>");
        h.due("(v " + ones(250) + " a)", 0, "#(".repeat(250) + "a" + ")".repeat(250));
        h.due("(v " + ones(250) + " #())", 0, "#(".repeat(250) + "#()" + ")".repeat(250));
        h.due("(v " + ones(251) + " a)", 1, "(\"syntax\")");
        h.due("(v " + ones(251) + " #())", 1, "(\"syntax\")");
        // a VECTOR as an EXPRESSION is a copy, as by quote
        h.due("(define-syntax w (syntax-rules () ((_ () e) e) ((_ (x . y) e) (w y #(e)))))", 0, "#<unspecified>");
        h.due("(w " + ones(250) + " a)", 0, "#(".repeat(250) + "a" + ")".repeat(250));
        h.due("(w " + ones(251) + " a)", 1, "(\"syntax\")");
        // cdrs make nothing deeper
        h.due("(length '(" + "1 ".repeat(2000) + "))", 0, "2000");
    }

    // "D of quote .. of more than 20000 [pairs and VECTORS] (.. what stands in it twice counts twice ..)"
    private void manyQuoted() {
        // a hundred times 199 pairs, and the hundred that have them
        String most = "(" + MANY + "#0#".repeat(99);
        h.fresh();
        h.due("(length '" + most + "))", 0, "100");
        h.due("(length '" + most + " 1))", 1, "#<error syntax>");
        h.fresh();
        h.due("(length '" + most.replace("#0#".repeat(99), "#0#".repeat(98)) + " #0#))", 0, "100");
        h.due("(length '(#() " + most.substring(1) + "))", 1, "#<error syntax>");
        h.fresh();
        String vectors = "(#0=(" + "#() ".repeat(99) + ")" + "#0#".repeat(99) + " 1".repeat(100);
        h.due("(length '" + vectors + "))", 0, "200");
        h.due("(length '" + vectors + " 1))", 1, "#<error syntax>");
        h.fresh();
        h.due("(vector-length #(1 " + MANY + "#0#".repeat(99) + "))", 0, "101");
        h.fresh();
        h.due("(vector-length #(() " + MANY + "#0#".repeat(99) + " (1 2)" + "))", 0, "102");
        h.fresh();
        // the VECTOR 1, 100 times 199 pairs, and 99 more
        h.due("(vector-length #(" + MANY + "#0#".repeat(99) + "(" + "1 ".repeat(99) + ")))", 0, "101");
        h.due("(vector-length #(" + MANY + "#0#".repeat(99) + "(" + "1 ".repeat(100) + ")))", 1, "#<error syntax>");
        h.due("'#0=(1 . #0#)", 1, "#<error syntax>");
        h.due("#0=#(1 #0#)", 1, "#<error syntax>");
    }

    // "an irritant that is so is not told: the irritants are ( ) then, without a pair"; "of syntax-error the string .. and
    // the D (( ) for one too deep)"
    private void deepIrritants() {
        fresh();
        h.due("(define-syntax bad (syntax-rules () ((_ () e) (if . e)) ((_ (x . y) e) (bad y (e)))))", 0, "#<unspecified>");
        // (if (..)): e is the form's cdr, so that its innermost is as deep as there are brackets in it
        h.due("(bad " + ones(250) + " #())", 1, "(\"syntax\" (if " + "(".repeat(249) + "#()" + ")".repeat(249) + "))");
        h.due("(bad " + ones(251) + " ())", 1, "(\"syntax\")");
        h.due("(bad " + ones(251) + " #())", 1, "(\"syntax\")");
        h.due("(define-syntax told (syntax-rules () ((_ () e) (syntax-error \"m\" e 1 e)) ((_ (x . y) e) (told y (e)))))", 0,
            "#<unspecified>");
        String deep = "(".repeat(250) + "a" + ")".repeat(250);
        h.due("(told " + ones(250) + " a)", 1, "(\"m\" " + deep + " 1 " + deep + ")");
        h.due("(told " + ones(251) + " a)", 1, "(\"m\" () 1 ())");
        h.due("(syntax-error \"m\" #0=(1 . #0#) #1=#(#1#) 2)", 1, "(\"m\" () () 2)");
        h.due("(if . #0=(1 . #0#))", 1, "(\"syntax\")");
        h.due("#0=(car . #0#)", 1, "(\"syntax\")");
    }

    private void manyIrritants() {
        // (if ..): 1 and 99 times 200 pairs, and 199 more
        String most = "(if " + MANY + "#0#".repeat(98) + " 1".repeat(199);
        fresh();
        h.feed(most + ")");
        h.due("evaluate()", h.get().evaluate(), 1);
        h.due("an irritant of 20000 pairs", h.told(1).startsWith("(\"syntax\" (if (1 1 1 "), true);
        h.due(most + " 1)", 1, "(\"syntax\")");
        fresh();
        String datum = "(" + MANY + "#0#".repeat(99);
        h.feed("(syntax-error \"m\" " + datum + "))");
        h.due("evaluate()", h.get().evaluate(), 1);
        h.due("a D of 20000 pairs", h.told(1).startsWith("(\"m\" ((1 1 1 "), true);
        h.due("(syntax-error \"m\" " + datum + " 1))", 1, "(\"m\" ())");
    }

    // "RULES with PATTERNS (but their first part, and its pair) .. more than 100 deep"
    private void deepPatterns() {
        fresh();
        h.due("(define-syntax p (syntax-rules () ((_ () a) (define-syntax k (syntax-rules () ((_ a) 'fits)))) ((_ (x . y) a)"
            + " (p y (a)))))", 0, "#<unspecified>");
        // the part itself is 1 deep
        h.due("(p " + ones(99) + " z)", 0, "#<unspecified>");
        h.feed("(p " + ones(100) + " z)");
        h.due("a PATTERN 101 deep", h.get().evaluate(), 1);
        h.due("its RULES", h.told(1).startsWith("(\"syntax\" (syntax-rules () ((_ (((("), true);
        h.due("(p " + ones(99) + " #())", 0, "#<unspecified>");
        h.feed("(p " + ones(99) + " #(z))");
        h.due("a PATTERN 101 deep", h.get().evaluate(), 1);
        h.due("(define-syntax r (syntax-rules () ((_ () a) (define-syntax k (syntax-rules () ((_ . a) 'fits)))) ((_ (x . y) a)"
            + " (r y (a)))))", 0, "#<unspecified>");
        h.due("(r " + ones(100) + " z)", 0, "#<unspecified>");
        h.feed("(r " + ones(101) + " z)");
        h.due("a PATTERN 101 deep", h.get().evaluate(), 1);
        h.due("(define-syntax s (syntax-rules () ((_ () a) (define-syntax k (syntax-rules () ((a) 'fits)))) ((_ (x . y) a)"
            + " (s y (a)))))", 0, "#<unspecified>");
        h.due("(s " + ones(150) + " z) (k)", 0, "fits");
    }

    private void deepTemplates() {
        fresh();
        h.due("(define-syntax t (syntax-rules () ((_ () a) (define-syntax k (syntax-rules () ((_) a)))) ((_ (x . y) a)"
            + " (t y (a)))))", 0, "#<unspecified>");
        h.due("(t " + ones(100) + " z)", 0, "#<unspecified>");
        h.feed("(t " + ones(101) + " z)");
        h.due("a TEMPLATE 101 deep", h.get().evaluate(), 1);
        h.due("(t " + ones(100) + " #())", 0, "#<unspecified>");
        h.feed("(t " + ones(100) + " #(z))");
        h.due("a TEMPLATE 101 deep", h.get().evaluate(), 1);
        h.due("(define-syntax u (syntax-rules () ((_ () a) (define-syntax k (syntax-rules () ((_) 'a)))) ((_ (x . y) a)"
            + " (u y (a)))))", 0, "#<unspecified>");
        h.due("(u " + ones(99) + " z) (k)", 0, "(".repeat(99) + "z" + ")".repeat(99));
        h.feed("(u " + ones(100) + " z)");
        h.due("a TEMPLATE 101 deep", h.get().evaluate(), 1);
    }

    // "or of more than 5000 pairs and VECTORS"
    private void manyInPatterns() {
        // 25 times 199 pairs, and the 25 that have them
        String most = MANY + "#0#".repeat(24);
        h.fresh();
        h.due("(define-syntax k (syntax-rules () ((_ " + most + ") 'fits)))", 0, "#<unspecified>");
        h.due("(k " + most + ")", 0, "fits");
        h.due("(define-syntax k (syntax-rules () ((_ " + most + " 1) 'fits)))", 1, "#<error syntax>");
        h.due("(define-syntax k (syntax-rules () ((_ " + most + " . #()) 'fits)))", 1, "#<error syntax>");
        h.due("(define-syntax k (syntax-rules () ((_ " + most + " . 1) 'fits)))", 0, "#<unspecified>");
        // elements of VECTORS don't count
        h.due("(define-syntax k (syntax-rules () ((_ #0=#(" + "1 ".repeat(999) + "1)" + "#0#".repeat(1000) + ") 'fits)))", 0,
            "#<unspecified>");
        String vectors = "(_ " + "#() ".repeat(1000) + ". #0=#(" + "#() ".repeat(2) + "))";
        h.due("(define-syntax k (syntax-rules () (" + vectors + " 'fits)))", 0, "#<unspecified>");
    }

    private void manyInTemplates() {
        // (quote ..): 2, 24 times 200, and 198
        String most = "'(" + MANY + "#0#".repeat(23) + " 1".repeat(198);
        h.fresh();
        h.due("(define-syntax k (syntax-rules () ((_) " + most + "))))", 0, "#<unspecified>");
        h.due("(define-syntax l (syntax-rules () ((_) (length " + most.substring(0, most.length() - 6) + ")))))", 0,
            "#<unspecified>");
        h.due("(l)", 0, "219");
        h.due("(define-syntax k (syntax-rules () ((_) " + most + " 1))))", 1, "#<error syntax>");
        h.due("(define-syntax k (syntax-rules () ((_) " + most + " . #()))))", 1, "#<error syntax>");
        h.due("(define-syntax k (syntax-rules () ((_) " + most + " . x))))", 0, "#<unspecified>");
        // each RULE is looked at for itself
        h.due("(define-syntax k (syntax-rules () ((_) " + most + ")) ((_ 1) (" + "#0#".repeat(24) + " . x))))", 0,
            "#<unspecified>");
    }

    // "a use in which the IDENTIFIERS of one PATTERN, as it is matched from the left, would get more than 20000 things
    // (besides each datum 1 for each IDENTIFIER of a part with an ELLIPSIS, each time its row begins, and 1 for each datum
    // that an ELLIPSIS goes over, ahead of matching it)"
    private void thingsOfOneEllipsis() {
        fresh();
        // _ gets nothing: 1 for each datum that is gone over, 2 for an IDENTIFIER, and 1 as its row begins
        h.due("(define-syntax k (syntax-rules () ((_ (_ ...) ...) 'fits)))", 0, "#<unspecified>");
        String hundred = "#0=(" + "1 ".repeat(98) + "1)";
        h.due("(k " + hundred + "#0#".repeat(199) + ")", 0, "fits");
        h.feed("(k " + hundred + "#0#".repeat(199) + "())");
        h.due("20001 things", h.get().evaluate(), 1);
        h.due("the use is too much to be told", h.told(1), "(\"syntax\")");
        fresh();
        h.due("(define-syntax k (syntax-rules () ((_ v (_ ...) ...) 'fits)))", 0, "#<unspecified>");
        h.feed("(k 1 " + hundred + "#0#".repeat(199) + ")");
        h.due("20001 things, one of them v's", h.get().evaluate(), 1);
        h.due("(k 1 " + hundred + "#0#".repeat(198) + "(" + "1 ".repeat(98) + "))", 0, "fits");
    }

    private void thingsOfRows() {
        fresh();
        // z: 1, 99 gone over, 99 things; x: 1, 99 rows gone over, each 1 and 99 gone over and 99 things
        String ninetyNine = "#0=(" + "1 ".repeat(98) + "1)";
        String use = ninetyNine + "#0#".repeat(99);
        h.due("(define-syntax k (syntax-rules () ((_ (z ...) (x ...) ...) 'fits)))", 0, "#<unspecified>");
        h.due("(k " + use + ")", 0, "fits");
        h.feed("(k " + use + "())");
        h.due("20002 things", h.get().evaluate(), 1);
        fresh();
        h.due("(define-syntax k (syntax-rules () ((_ w (z ...) (x ...) ...) 'fits)))", 0, "#<unspecified>");
        h.feed("(k 1 " + use + ")");
        h.due("20001 things, one of them w's", h.get().evaluate(), 1);
        fresh();
        h.due("(define-syntax k (syntax-rules () ((_ (z ...) (x ...) ... . w) 'fits)))", 0, "#<unspecified>");
        h.feed("(k " + use + " . 1)");
        h.due("20001 things, the last of them w's", h.get().evaluate(), 1);
        fresh();
        h.due("(define-syntax k (syntax-rules () ((_ (z ...) (x ...) ... y) 'fits)))", 0, "#<unspecified>");
        h.feed("(k " + use + " 1)");
        h.due("20001 things, the last of them y's", h.get().evaluate(), 1);
        fresh();
        h.due("(define-syntax k (syntax-rules () ((_ (z ...) (x ...) ... #(v ...)) 'fits)))", 0, "#<unspecified>");
        h.feed("(k " + use + " #())");
        h.due("20001 things, as v's row begins", h.get().evaluate(), 1);
    }

    /** Things are counted for each PATTERN anew; in one that doesn't match, up to where it doesn't. */
    private void thingsOfEachPattern() {
        fresh();
        String most = "#0=(" + "1 ".repeat(98) + "1)" + "#0#".repeat(99);
        h.due("(define-syntax k (syntax-rules () ((_ (z ...) (x ...) ... . 5) 'no) ((_ (z ...) (x ...) ...) 'fits)))", 0,
            "#<unspecified>");
        h.due("(k " + most + ")", 0, "fits");
        fresh();
        h.due("(define-syntax k (syntax-rules () ((_ w (z ...) (x ...) ... . 5) 'no) ((_ . y) 'fits)))", 0, "#<unspecified>");
        h.feed("(k 1 " + most + ")");
        h.due("20001 things of a PATTERN that isn't so", h.get().evaluate(), 1);
        fresh();
        h.due("(define-syntax k (syntax-rules () ((_ 5 w (z ...) (x ...) ...) 'no) ((_ . y) 'fits)))", 0, "#<unspecified>");
        h.due("(k 1 1 " + most + ")", 0, "fits");
    }

    // "A ring is no list, and no ELLIPSIS goes through it."
    private void rings() {
        fresh();
        String ring = "#0=(x . #0#)";
        String[] forms = {"(lambda " + ring + " 1)", "(lambda (y) . " + ring + ")", "(define (f . " + ring + ") 1)", "(begin . " + ring + ")",
            "(let-syntax " + ring + " 1)", "(let-syntax () . " + ring + ")", "(define-syntax k (syntax-rules . " + ring + "))",
            "(define-syntax k (syntax-rules " + ring + "))", "(define-syntax k (syntax-rules () ((_ . " + ring + ") 1)))",
            "(define-syntax k (syntax-rules () ((_) " + ring + ")))", "(define-syntax k (syntax-rules () " + ring + "))",
            "(import " + ring + ")", "(import . " + ring + ")", "(define-library " + ring + ")", "(define-library (l) . " + ring + ")",
            "(define-library (l) (export . " + ring + "))", "(define-library (l) (begin . " + ring + "))", ring, "(if . " + ring + ")",
            "(quote " + ring + ")", "(import (only (scheme base) . " + ring + "))"};
        for (String form : forms) h.due(form, 1, "(\"syntax\")");
        h.due("(define-syntax k (syntax-rules () ((_ a ...) 'list) ((_ a . b) 'pair)))", 0, "#<unspecified>");
        h.due("(k . " + ring + ")", 0, "pair");
    }
}
