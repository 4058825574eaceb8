/** The edges that "PROCEDURES", here and closer, and "WRITING" name: the last case still allowed, the first that isn't. */
final class EdgesOfProceduresTest {
    private final House h = new House();

    public static void main(String[] args) {
        EdgesOfProceduresTest test = new EdgesOfProceduresTest();
        test.equality();
        test.tenThousandCompared();
        test.booleansAndSymbols();
        test.pairs();
        test.lists();
        test.listTails();
        test.searches();
        test.listCopies();
        test.characters();
        test.comparedCharacters();
        test.sizesAskedFor();
        test.indices();
        test.spans();
        test.substrings();
        test.copiesInto();
        test.overlaps();
        test.fills();
        test.listsToRows();
        test.bytes();
        test.utf8();
        test.cases();
        test.applied();
        test.errorObjects();
        test.parameters();
        test.recordTypes();
        test.ownProcedures();
        test.takenInput();
        test.lines();
        test.written();
        test.writtenSymbols();
        test.writtenLabels();
        test.numbersOfOperands();
        test.unspecified();
        test.preludeLoops();
        House.finish();
    }

    /** A new house in which (c X) is what X answers, or the message and the irritants of its condition. */
    private void fresh() {
        h.fresh();
        h.due("(define-syntax c (syntax-rules () ((_ e) (guard (x ((error-object? x) (cons (error-object-message x)"
            + " (error-object-irritants x)))) e))))", 0, "#<unspecified>");
    }

    private void due(String text, String result) {
        h.due(text, 0, result);
    }

    private void fails(String expression, String condition) {
        h.due("(c " + expression + ")", 0, "(" + condition + ")");
    }

    private void type(String name, String operands, String irritant) {
        fails("(" + name + " " + operands + ")", "\"type\" " + name + " " + irritant);
    }

    private void range(String name, String operands, String irritant) {
        fails("(" + name + " " + operands + ")", "\"range\" " + name + " " + irritant);
    }

    // "eq? is eqv?"; "equal? looks at cars ahead of cdrs; two that are eqv? aren't gone into"
    private void equality() {
        fresh();
        due("(list (eq? '() '()) (eq? \"\" \"\") (eq? '(1) '(1)) (eq? 'a 'a) (eqv? #\\a #\\a) (eqv? #t #t) (eq? car car))",
            "(#t #f #f #t #t #t #t)");
        due("(list (equal? '(1 #(2 \"s\" #u8(3)) . 4) (list 1 (vector 2 \"s\" (bytevector 3)) 4)) (equal? '(1 . 2) '(1 . 2)))",
            "(#f #t)");
        due("(list (equal? \"ab\" \"ab\") (equal? \"ab\" \"ac\") (equal? \"ab\" \"abc\") (equal? #u8(1) #u8(1)) (equal? #u8(97) \"a\")"
            + " (equal? #(1) '(1)) (equal? #() #()) (equal? 1 1.) (equal? +nan.0 +nan.0) (equal? car cdr))",
            "(#t #f #f #t #f #f #t #f #t #f)");
        due("(define ring (list 1)) (set-cdr! ring ring) (equal? ring ring)", "#t");
        due("(equal? (cons 1 ring) (cons 2 ring))", "#f");
        fails("(equal? ring (let ((r (list 1))) (set-cdr! r r) r))", "\"limit\" equal?");
    }

    // "("limit" behind 10000 pairs of objects that were compared)"; "each two that are compared count one, two strings or
    // bytevectors of one size (not eqv?) a 64th of it (cut) more, ahead of being looked at"
    private void tenThousandCompared() {
        fresh();
        due("(equal? (make-vector 9999 0) (make-vector 9999 0))", "#t");
        fails("(equal? (make-vector 10000 0) (make-vector 10000 0))", "\"limit\" equal?");
        due("(equal? (make-vector 10000 0) (make-vector 9999 0))", "#f");
        due("(let ((v (make-vector 10000 0))) (equal? v v))", "#t");
        // 1 and 2 for each pair, the car and the cdr
        due("(equal? (make-list 4999 0) (make-list 4999 0))", "#t");
        fails("(equal? (make-list 5000 0) (make-list 5000 0))", "\"limit\" equal?");
        // the vectors count 1, their elements 9997, and the strings their 64ths
        String most = "(let ((v (make-vector 9997 0)) (w (make-vector 9997 0))) (vector-set! v 9996 (make-string %d #\\x))"
            + " (vector-set! w 9996 (make-string %d #\\x)) (equal? v w))";
        fresh();
        due(String.format(most, 63, 63), "#t");
        due(String.format(most, 128, 128), "#t");
        due(String.format(most, 191, 191), "#t");
        fresh();
        fails(String.format(most, 192, 192), "\"limit\" equal?");
        due(String.format(most, 192, 191), "#f");
        String bytes = most.replace("string", "bytevector").replace("#\\x", "0");
        due(String.format(bytes, 191, 191), "#t");
        fresh();
        fails(String.format(bytes, 192, 192), "\"limit\" equal?");
        due("(let* ((s (make-string 10000 #\\x)) (v (make-vector 9999 s))) (equal? v (vector-copy v)))", "#t");
        // ahead of being looked at: they differ in their first sign
        fresh();
        fails("(let ((v (make-vector 9999 0)) (w (make-vector 9999 0))) (vector-set! v 9998 (make-string 64 #\\x))"
            + " (vector-set! w 9998 (make-string 64 #\\y)) (equal? v w))", "\"limit\" equal?");
        due("(let ((v (make-vector 9999 0)) (w (make-vector 9999 0))) (vector-set! v 9998 (make-string 63 #\\x))"
            + " (vector-set! w 9998 (make-string 63 #\\y)) (equal? v w))", "#f");
        due("(let ((v (make-vector 9999 0)) (w (make-vector 9999 0))) (vector-set! w 0 1) (equal? v w))", "#f");
    }

    // "boolean=? of what is none: #f"; "c c .., s s .., x x .. take one operand, too"; "string->symbol s (at most 40
    // signs: "range")"
    private void booleansAndSymbols() {
        fresh();
        due("(list (boolean=? #t) (boolean=? 5) (boolean=? 5 5) (boolean=? #t #t #t) (boolean=? #f #t) (boolean=? #t 5)"
            + " (boolean=? #f #f '()))", "(#t #f #f #t #f #f #f)");
        due("(list (symbol=? 'a) (symbol=? 'a 'a 'a) (symbol=? 'a 'a 'b))", "(#t #t #f)");
        type("symbol=?", "'a 'a 1", "1");
        type("symbol=?", "1", "1");
        due("(eq? (string->symbol (make-string 40 #\\a)) '" + "a".repeat(40) + ")", "#t");
        due("(car (c (string->symbol (make-string 41 #\\a))))", "\"range\"");
        range("string->symbol", "\"" + "a".repeat(41) + "\"", "\"" + "a".repeat(41) + "\"");
        due("(list (string->symbol \"\") (symbol->string 'abc) (symbol->string '||))", "(|| \"abc\" \"\")");
        type("symbol->string", "\"a\"", "\"a\"");
        type("string->symbol", "'a", "a");
        due("(list (not #f) (not 0) (not '()) (boolean? #f) (boolean? 0) (symbol? 'a) (symbol? \"a\"))",
            "(#t #f #f #t #f #t #f)");
    }

    // "car cdr p, and those of two to four a, d"; "cars, cdrs of several letters with the operand as it was given"
    private void pairs() {
        fresh();
        type("car", "'()", "()");
        type("cdr", "5", "5");
        type("set-car!", "'() 1", "()");
        type("cadr", "'(1)", "(1)");
        type("cddr", "'(1)", "(1)");
        type("caddr", "'(1 2)", "(1 2)");
        type("cadddr", "'(1 2 3)", "(1 2 3)");
        type("caaaar", "'(((1)))", "(((1)))");
        due("(list (cadr '(1 2)) (caddr '(1 2 3)) (cadddr '(1 2 3 4)) (cddddr '(1 2 3 4 5)) (caaaar '((((1))))))",
            "(2 3 4 (5) 1)");
        String[] letters = {"a", "d"};
        for (String a : letters) for (String b : letters) for (String c : letters) for (String d : letters) {
            for (String name : new String[] {a + b, a + b + c, a + b + c + d}) {
                StringBuilder nested = new StringBuilder("x");
                for (int i = 0; i < name.length(); i++) {
                    nested.insert(0, "(c" + name.charAt(name.length() - 1 - i) + "r ");
                    nested.append(')');
                }
                String nest = "";
                for (int i = 0; i < name.length(); i++) nest += "(c" + name.charAt(i) + "r ";
                due("(define x '(((((1) 2) (3) 4) ((5) 6) (7) 8) (((9) 10) (11) 12) ((13) 14) (15) 16)) (equal? (c (c" + name
                    + "r x)) (c " + nest + "x" + ")".repeat(name.length()) + "))", "#t");
            }
        }
    }

    // "length l"; "reverse l"; "append l .. x"; "append: the last operand may be anything"; "A ring is no list"
    private void lists() {
        fresh();
        due("(define ring (list 1 2)) (set-cdr! (cdr ring) ring)", "#<unspecified>");
        due("(define tail (cons 0 ring)) (map list? (list '() '(1) '(1 . 2) ring tail 5))", "(#t #t #f #f #f #f)");
        due("(list (length '()) (length '(1 2)) (reverse '()) (reverse '(1 2 3)))", "(0 2 () (3 2 1))");
        type("length", "'(1 . 2)", "(1 . 2)");
        type("length", "5", "5");
        type("reverse", "'(1 . 2)", "(1 . 2)");
        due("(car (c (length ring)))", "\"type\"");
        due("(car (c (reverse tail)))", "\"type\"");
        due("(car (c (append ring '())))", "\"type\"");
        due("(list (append '()) (append 5) (append '(1) 2) (append '(1) '(2) '(3 . 4)) (append '() '() '()))",
            "(() 5 (1 . 2) (1 2 3 . 4) ())");
        due("(let ((x '(2))) (eq? x (cdr (append '(1) x))))", "#t");
        due("(eq? ring (append '() ring))", "#t");
        type("append", "'(1 . 2) '()", "(1 . 2)");
        type("append", "5 '()", "5");
        type("append", "'(1) 2 '(3)", "2");
        fails("(append)", "\"arity\" #<procedure>");
        due("(list (list) (list 1) (make-list 0) (make-list 2 'x) (length (make-list 3)))", "(() (1) () (x x) 3)");
        due("(make-list 1)", "(#<unspecified>)");
    }

    // "list-tail x k, list-ref x k, list-set! x k x ("range")"; "with k above 300000: "range""
    private void listTails() {
        fresh();
        due("(list (list-tail '(1 2) 0) (list-tail '(1 2) 2) (list-tail 5 0) (list-tail '(1 . 2) 1) (list-ref '(1 2) 1)"
            + " (list-ref '(1 . 2) 0))", "((1 2) () 5 2 2 1)");
        range("list-tail", "'(1 2) 3", "3");
        range("list-tail", "5 1", "1");
        range("list-tail", "'(1 . 2) 2", "2");
        range("list-ref", "'(1 2) 2", "2");
        range("list-ref", "'() 0", "0");
        range("list-ref", "'(1 . 2) 1", "1");
        range("list-set!", "'(1 2) 2 'x", "2");
        due("(define l (list 1 2)) (list-set! l 1 'x) l", "(1 x)");
        due("(c (list-set! l 2 'y)) l", "(1 x)");
        due("(define ring (list 1 2 3)) (set-cdr! (cddr ring) ring)", "#<unspecified>");
        due("(list (list-ref ring 300000) (list-ref ring 299999) (car (list-tail ring 300000)))", "(1 3 1)");
        due("(list-set! ring 300000 'x) (car ring)", "x");
        range("list-ref", "ring 300001", "300001");
        range("list-tail", "ring 300001", "300001");
        range("list-set!", "ring 300001 1", "300001");
        range("list-tail", "ring 1000000000000", "1000000000000");
        type("list-ref", "ring -1", "-1");
    }

    // "memq memv x l; assq assv x l ("type" of an element come to that is no pair: the list)"
    private void searches() {
        fresh();
        due("(list (memq 'b '(a b c)) (memv 1.5 '(1 1.5)) (memq 'd '(a b)) (memv 'a '()) (member \"b\" '(\"a\" \"b\")))",
            "((b c) (1.5) #f #f (\"b\"))");
        type("memq", "'a '(a . b)", "(a . b)");
        type("memv", "'a 5", "5");
        due("(list (assq 'b '((a 1) (b 2))) (assv 2 '((1 . 1) (2 . 2) 5)) (assq 'c '((a 1))) (assv 'a '()) (assoc 2. '((1 1) (2 2)) =))",
            "((b 2) (2 . 2) #f #f (2 2))");
        type("assq", "'b '((a 1) 5 (b 2))", "((a 1) 5 (b 2))");
        type("assv", "'b '(5)", "(5)");
        type("assq", "'a '((a 1) . 5)", "((a 1) . 5)");
    }

    // "list-copy: pairs up to something else; of a ring "type""
    private void listCopies() {
        fresh();
        due("(list (list-copy '(1 2)) (list-copy '(1 . 2)) (list-copy '()) (list-copy 5))", "((1 2) (1 . 2) () 5)");
        due("(define l '(1 (2))) (let ((m (list-copy l))) (list (eq? l m) (eq? (cdr l) (cdr m)) (eq? (cadr l) (cadr m))))",
            "(#f #f #t)");
        due("(define ring (list 1)) (set-cdr! ring ring) (car (c (list-copy ring)))", "\"type\"");
        due("(car (c (list-copy (cons 0 ring))))", "\"type\"");
    }

    // "integer->char k" (CHARACTERS are 0 .. 127); "digit-value c"
    private void characters() {
        fresh();
        due("(map integer->char '(0 32 127))", "(#\\null #\\space #\\delete)");
        due("(map char? '(#\\null #\\delete #\\a \"a\" a 97))", "(#t #t #t #f #f #f)");
        range("integer->char", "128", "128");
        range("integer->char", "1000000000000", "1000000000000");
        type("integer->char", "-1", "-1");
        type("char->integer", "\"a\"", "\"a\"");
        String chars = " '(#\\a #\\z #\\A #\\Z #\\0 #\\9 #\\@ #\\[ #\\` #\\{ #\\/ #\\: #\\space #\\tab #\\return #\\xb #\\x8 #\\xe))";
        due("(map char-alphabetic?" + chars, "(#t #t #t #t #f #f #f #f #f #f #f #f #f #f #f #f #f #f)");
        due("(map char-numeric?" + chars, "(#f #f #f #f #t #t #f #f #f #f #f #f #f #f #f #f #f #f)");
        due("(map char-whitespace?" + chars, "(#f #f #f #f #f #f #f #f #f #f #f #f #t #t #t #t #f #f)");
        due("(map char-upper-case?" + chars, "(#f #f #t #t #f #f #f #f #f #f #f #f #f #f #f #f #f #f)");
        due("(map char-lower-case?" + chars, "(#t #t #f #f #f #f #f #f #f #f #f #f #f #f #f #f #f #f)");
        due("(map digit-value" + chars, "(#f #f #f #f 0 9 #f #f #f #f #f #f #f #f #f #f #f #f)");
        due("(map char-upcase" + chars, "(#\\A #\\Z #\\A #\\Z #\\0 #\\9 #\\@ #\\[ #\\` #\\{ #\\/ #\\: #\\space #\\tab #\\return"
            + " #\\xb #\\backspace #\\xe)");
        due("(map char-downcase" + chars, "(#\\a #\\z #\\a #\\z #\\0 #\\9 #\\@ #\\[ #\\` #\\{ #\\/ #\\: #\\space #\\tab #\\return"
            + " #\\xb #\\backspace #\\xe)");
    }

    // "char=? .. c c ..", "string=? .. s s .." take one operand, too
    private void comparedCharacters() {
        fresh();
        String[] names = {"=?", "<?", ">?", "<=?", ">=?"};
        String[] answers = {"(#t #t #f #f #f)", "(#t #f #t #f #f)", "(#t #f #f #t #f)", "(#t #t #t #f #f)",
            "(#t #t #f #t #f)"};
        for (int i = 0; i < names.length; i++) {
            String c = "char" + names[i];
            due("(list (" + c + " #\\b) (" + c + " #\\b #\\b) (" + c + " #\\a #\\b) (" + c + " #\\b #\\a) (" + c
                + " #\\a #\\c #\\b #\\c))", answers[i]);
            fails("(" + c + ")", "\"arity\" #<procedure>");
            type(c, "#\\b #\\a 1", "1");
            String s = "string" + names[i];
            due("(list (" + s + " \"b\") (" + s + " \"b\" \"b\") (" + s + " \"a\" \"b\") (" + s + " \"b\" \"a\") (" + s
                + " \"a\" \"c\" \"b\" \"c\"))", answers[i]);
            fails("(" + s + ")", "\"arity\" #<procedure>");
            type(s, "\"b\" \"a\" 'c", "c");
        }
        due("(list (string<? \"\" \"a\") (string<? \"a\" \"a\") (string<? \"a\" \"aa\") (string<? \"ab\" \"b\") (string>? \"aa\" \"a\")"
            + " (string<=? \"\" \"\"))", "(#t #f #t #t #t #t)");
        due("(list (string-ci=? \"aB\" \"Ab\" \"AB\") (string-ci=? \"a\" \"b\") (string-ci=? \"a\") (string-ci=? \"@\" \"`\"))",
            "(#t #f #t #f)");
    }

    // "Sizes asked for are at most 10000, else "range"."
    private void sizesAskedFor() {
        fresh();
        due("(string-length (make-string 10000 #\\x))", "10000");
        due("(vector-length (make-vector 10000))", "10000");
        due("(bytevector-length (make-bytevector 10000 1))", "10000");
        due("(length (make-list 10000))", "10000");
        for (String name : new String[] {"make-string", "make-vector", "make-bytevector", "make-list", "read-string"}) {
            range(name, "10001", "10001");
            range(name, "100000000000", "100000000000");
            type(name, "-1", "-1");
            type(name, "1.0", "1.0");
        }
        range("make-string", "10001 #\\a", "10001");
        range("make-bytevector", "10001 256", "10001");
        range("make-bytevector", "10000 256", "256");
        type("make-string", "10001 1", "1");
        type("make-bytevector", "10001 -1", "-1");
        due("(list (make-string 0) (make-vector 0) (make-bytevector 0) (make-list 0) (make-string 2) (make-vector 1)"
            + " (make-bytevector 2))", "(\"\" #() #u8() () \"  \" #(#<unspecified>) #u8(0 0))");
        // what is made of others may be more
        due("(string-length (string-append (make-string 10000) (make-string 1)))", "10001");
        due("(vector-length (vector-append (make-vector 10000) #(1)))", "10001");
        due("(bytevector-length (bytevector-append (make-bytevector 10000) #u8(1)))", "10001");
        h.input("x".repeat(100));
        due("(string-length (read-string 10000))", "100");
    }

    /** An index is below the size, of strings, vectors and bytevectors alike. */
    private void indices() {
        fresh();
        due("(list (string-ref \"ab\" 1) (vector-ref #(a b) 1) (bytevector-u8-ref #u8(1 2) 1))", "(#\\b b 2)");
        range("string-ref", "\"ab\" 2", "2");
        range("vector-ref", "#(a b) 2", "2");
        range("bytevector-u8-ref", "#u8(1 2) 2", "2");
        range("string-ref", "\"\" 0", "0");
        range("vector-ref", "#() 0", "0");
        range("bytevector-u8-ref", "#u8() 0", "0");
        range("vector-ref", "#(a b) 100000000000", "100000000000");
        range("string-set!", "\"ab\" 2 #\\c", "2");
        range("vector-set!", "#(a b) 2 'c", "2");
        range("bytevector-u8-set!", "#u8(1 2) 2 3", "2");
        range("bytevector-u8-set!", "#u8(1 2) 2 256", "2");
        range("bytevector-u8-set!", "#u8(1 2) 1 256", "256");
        type("bytevector-u8-set!", "#u8(1 2) 1 -1", "-1");
        due("(let ((s (string #\\a #\\b)) (v (vector 1 2)) (b (bytevector 1 2))) (string-set! s 1 #\\c) (vector-set! v 1 'c)"
            + " (bytevector-u8-set! b 1 255) (list s v b))", "(\"ac\" #(1 c) #u8(1 255))");
        due("(list (string-length \"\") (vector-length #()) (bytevector-length #u8()))", "(0 0 0)");
    }

    // "Of optional [k [k]] the first is 0, the second the size; they are looked at from the left"
    private void spans() {
        fresh();
        String[] names = {"string->list", "string-copy", "string->vector", "string->utf8", "vector->list", "vector-copy",
            "vector->string", "bytevector-copy", "utf8->string"};
        String[] rows = {"\"abc\"", "\"abc\"", "\"abc\"", "\"abc\"", "#(#\\a #\\b #\\c)", "#(#\\a #\\b #\\c)",
            "#(#\\a #\\b #\\c)", "#u8(97 98 99)", "#u8(97 98 99)"};
        String[] all = {"(#\\a #\\b #\\c)", "\"abc\"", "#(#\\a #\\b #\\c)", "#u8(97 98 99)", "(#\\a #\\b #\\c)",
            "#(#\\a #\\b #\\c)", "\"abc\"", "#u8(97 98 99)", "\"abc\""};
        String[] middle = {"(#\\b)", "\"b\"", "#(#\\b)", "#u8(98)", "(#\\b)", "#(#\\b)", "\"b\"", "#u8(98)", "\"b\""};
        String[] none = {"()", "\"\"", "#()", "#u8()", "()", "#()", "\"\"", "#u8()", "\"\""};
        for (int i = 0; i < names.length; i++) {
            String call = "(" + names[i] + " " + rows[i];
            due(call + ")", all[i]);
            due(call + " 0)", all[i]);
            due(call + " 0 3)", all[i]);
            due(call + " 1 2)", middle[i]);
            due(call + " 3)", none[i]);
            due(call + " 3 3)", none[i]);
            due(call + " 0 0)", none[i]);
            range(names[i], rows[i] + " 4", "4");
            range(names[i], rows[i] + " 4 5", "4");
            range(names[i], rows[i] + " 4 2", "4");
            range(names[i], rows[i] + " 2 4", "4");
            range(names[i], rows[i] + " 2 1", "1");
            range(names[i], rows[i] + " 3 2", "2");
            range(names[i], rows[i] + " 0 100000000000", "100000000000");
            type(names[i], rows[i] + " -1", "-1");
            type(names[i], rows[i] + " 4 'x", "x");
            type(names[i], "'x 4", "x");
            fails("(" + names[i] + ")", "\"arity\" #<procedure>");
            fails(call + " 0 1 2)", "\"arity\" #<procedure>");
        }
        h.due("(write-string \"abc\" 1) (write-string \"abc\" 1 2) (write-string \"abc\" 3) (write-string \"abc\")", 0,
            "#<unspecified>");
        h.due("OUTPUT", h.told(0), "bcbabc");
        range("write-string", "\"abc\" 4", "4");
        range("write-string", "\"abc\" 2 1", "1");
        range("write-string", "\"abc\" 0 4", "4");
        type("write-string", "#\\a", "#\\a");
    }

    // "substring s k k"; "((substring s 3 2): the 2)"
    private void substrings() {
        fresh();
        due("(list (substring \"abc\" 0 3) (substring \"abc\" 1 1) (substring \"abc\" 3 3))", "(\"abc\" \"\" \"\")");
        range("substring", "\"abc\" 3 2", "2");
        range("substring", "\"abc\" 4 2", "4");
        range("substring", "\"abc\" 0 4", "4");
        fails("(substring \"abc\" 0)", "\"arity\" #<procedure>");
        due("(let ((s \"abc\")) (list (eq? s (substring s 0 3)) (eq? s (string-copy s)) (eq? s (string-append s))))", "(#f #f #f)");
        due("(list (string-append) (vector-append) (bytevector-append) (string) (vector) (bytevector))",
            "(\"\" #() #u8() \"\" #() #u8())");
        type("string-append", "\"a\" 'b", "b");
    }

    // "string-copy! and its like: the first k, start, end, then too little room (the first k)"
    private void copiesInto() {
        fresh();
        String[] names = {"string-copy!", "vector-copy!", "bytevector-copy!"};
        String[] rows = {"(string-copy \"12345\")", "(vector 1 2 3 4 5)", "(bytevector 1 2 3 4 5)"};
        String[] from = {"\"abc\"", "#(a b c)", "#u8(7 8 9)"};
        String[] first = {"\"abc45\"", "#(a b c 4 5)", "#u8(7 8 9 4 5)"};
        String[] last = {"\"12abc\"", "#(1 2 a b c)", "#u8(1 2 7 8 9)"};
        String[] end = {"\"1234c\"", "#(1 2 3 4 c)", "#u8(1 2 3 4 9)"};
        String[] same = {"\"12345\"", "#(1 2 3 4 5)", "#u8(1 2 3 4 5)"};
        for (int i = 0; i < 3; i++) {
            String call = "(let ((x " + rows[i] + ")) (" + names[i] + " x ";
            due(call + "0 " + from[i] + ") x)", first[i]);
            due(call + "2 " + from[i] + ") x)", last[i]);
            due(call + "4 " + from[i] + " 2) x)", end[i]);
            due(call + "4 " + from[i] + " 2 3) x)", end[i]);
            due(call + "5 " + from[i] + " 3) x)", same[i]);
            due(call + "5 " + from[i] + " 0 0) x)", same[i]);
            String begun = rows[i] + " ";
            range(names[i], begun + "6 " + from[i] + " 4 5", "6");
            range(names[i], begun + "5 " + from[i] + " 4 5", "4");
            range(names[i], begun + "5 " + from[i] + " 2 4", "4");
            range(names[i], begun + "5 " + from[i] + " 2 1", "1");
            range(names[i], begun + "5 " + from[i] + " 2 3", "5");
            range(names[i], begun + "3 " + from[i], "3");
            range(names[i], begun + "6 " + from[i] + " 3", "6");
            type(names[i], begun + "6 'x", "x");
            fails("(" + names[i] + " " + begun + "0)", "\"arity\" #<procedure>");
            due("(let ((x " + rows[i] + ")) (c (" + names[i] + " x 3 " + from[i] + ")) x)", same[i]);
        }
    }

    /** What is copied within one row is what was there ahead. */
    private void overlaps() {
        fresh();
        due("(let ((x (vector 1 2 3 4 5))) (vector-copy! x 1 x 0 4) x)", "#(1 1 2 3 4)");
        due("(let ((x (vector 1 2 3 4 5))) (vector-copy! x 0 x 1 5) x)", "#(2 3 4 5 5)");
        due("(let ((x (string #\\1 #\\2 #\\3 #\\4))) (string-copy! x 1 x 0 3) x)", "\"1123\"");
        due("(let ((x (bytevector 1 2 3 4))) (bytevector-copy! x 0 x 1) x)", "#u8(2 3 4 4)");
        due("(let ((x (vector 1 2 3))) (vector-copy! x 0 x) x)", "#(1 2 3)");
    }

    // "string-fill! s c [k [k]]"; "vector-fill! v x [k [k]]"
    private void fills() {
        fresh();
        String[] names = {"string-fill!", "vector-fill!"};
        String[] rows = {"(string #\\1 #\\2 #\\3)", "(vector 1 2 3)"};
        String[] all = {"\"xxx\"", "#(#\\x #\\x #\\x)"};
        String[] end = {"\"1xx\"", "#(1 #\\x #\\x)"};
        String[] middle = {"\"1x3\"", "#(1 #\\x 3)"};
        String[] same = {"\"123\"", "#(1 2 3)"};
        for (int i = 0; i < 2; i++) {
            String call = "(let ((x " + rows[i] + ")) (" + names[i] + " x #\\x";
            due(call + ") x)", all[i]);
            due(call + " 1) x)", end[i]);
            due(call + " 1 2) x)", middle[i]);
            due(call + " 3) x)", same[i]);
            due(call + " 0 0) x)", same[i]);
            range(names[i], rows[i] + " #\\x 4", "4");
            range(names[i], rows[i] + " #\\x 0 4", "4");
            range(names[i], rows[i] + " #\\x 2 1", "1");
            fails("(" + names[i] + " " + rows[i] + ")", "\"arity\" #<procedure>");
        }
        type("string-fill!", "\"a\" 1", "1");
    }

    // "list->string l (of c)"; "list->string, vector->string of another thing: "type" with the list, vector"
    private void listsToRows() {
        fresh();
        due("(list (list->string '()) (list->string '(#\\a)) (list->vector '()) (list->vector '(1 (2))))",
            "(\"\" \"a\" #() #(1 (2)))");
        type("list->string", "'(#\\a 1)", "(#\\a 1)");
        type("list->string", "'(#\\a . #\\b)", "(#\\a . #\\b)");
        type("list->string", "\"a\"", "\"a\"");
        type("list->vector", "'(1 . 2)", "(1 . 2)");
        type("vector->string", "#(#\\a 1)", "#(#\\a 1)");
        due("(vector->string #(#\\a 1) 0 1)", "\"a\"");
        type("string", "#\\a 1", "1");
    }

    // "bytevector k .."; "a byte above 255: it"
    private void bytes() {
        fresh();
        due("(bytevector 0 255)", "#u8(0 255)");
        range("bytevector", "0 256 257", "256");
        range("bytevector", "100000000000", "100000000000");
        type("bytevector", "256 -1", "-1");
        type("bytevector", "0 1.0", "1.0");
        due("(make-bytevector 2 255)", "#u8(255 255)");
        range("make-bytevector", "2 256", "256");
        due("(let ((b (bytevector 1))) (c (bytevector-u8-set! b 0 256)) b)", "#u8(1)");
    }

    // "utf8->string b [k [k]] (0 .. 127)"; "utf8->string: the bytevector"
    private void utf8() {
        fresh();
        due("(utf8->string #u8(97 0 127))", "\"a\\x0;\\x7f;\"");
        range("utf8->string", "#u8(97 128)", "#u8(97 128)");
        due("(list (utf8->string #u8(97 128) 0 1) (utf8->string #u8(255) 1))", "(\"a\" \"\")");
        range("utf8->string", "#u8(97 128) 1", "#u8(97 128)");
        due("(string->utf8 \"a\\x7f;\\x0;\")", "#u8(97 127 0)");
    }

    private void cases() {
        fresh();
        due("(list (string-upcase \"aZ{0`\") (string-downcase \"aZ[0@\") (string-upcase \"\"))", "(\"AZ{0`\" \"az[0@\" \"\")");
        type("string-upcase", "'a", "a");
        // "%case-lambda passes over what is no lambda"
        due("((%case-lambda car (lambda (x y) 2) list) 1 2)", "2");
        fails("((%case-lambda car list) '(1))", "\"arity\" #<procedure>");
        type("%case-lambda", "(lambda () 1) 5", "5");
        due("((%case-lambda (lambda x 'first) (lambda (x) 'second)) 1)", "first");
    }

    // "apply f x .. l"; "apply's last operand must be a list"
    private void applied() {
        fresh();
        due("(list (apply + '()) (apply + 1 2 '(3 4)) (apply list 1 '()) (apply apply (list + '(1 2))))", "(0 10 (1) 3)");
        fails("(apply +)", "\"arity\" #<procedure>");
        type("apply", "+ 5", "5");
        type("apply", "+ 1 '(2 . 3)", "(2 . 3)");
        type("apply", "5 '()", "5");
        due("(define ring (list 1)) (set-cdr! ring ring) (car (c (apply + ring)))", "\"type\"");
        due("(apply + (make-list 3000 1))", "3000");
    }

    // "error-object-message error-object-irritants (of ERROR OBJECTS)"
    private void errorObjects() {
        fresh();
        due("(let ((e (%make-error 'm '(1)))) (list (error-object? e) (error-object-message e) (error-object-irritants e)))",
            "(#t m (1))");
        due("(map error-object? (list 1 \"e\" '() car))", "(#f #f #f #f)");
        type("error-object-message", "5", "5");
        type("error-object-irritants", "\"e\"", "\"e\"");
        type("%make-error", "1 2", "2");
        fails("(error \"m\" 1 'b)", "\"m\" 1 b");
        due("(list (eof-object? (eof-object)) (eof-object? 1) (procedure? car) (procedure? (lambda () 1)) (procedure? 'car))",
            "(#t #f #t #t #f)");
    }

    // "%make-parameter x f: a procedure of no operands: what PARAMETERS have for it, else x; %converter: its f"
    private void parameters() {
        fresh();
        due("(define p (make-parameter 1)) (define q (make-parameter 2 (lambda (x) (* x 10))))", "#<unspecified>");
        due("(list (p) (q) (parameterize ((p 3) (q 4)) (list (p) (q))) (p) (q))", "(1 20 (3 40) 1 20)");
        due("(parameterize ((p 3)) (parameterize ((p 4)) (p)))", "4");
        due("(parameterize () 5)", "5");
        type("%converter", "car", "#<procedure>");
        type("%converter", "5", "5");
        type("%make-parameter", "1 2", "2");
        fails("(parameterize ((5 1)) 1)", "\"type\" %converter 5");
        due("((%converter q) 5)", "50");
        due("(%with '() (list (cons p 7)) p)", "7");
        due("(list (p) (%with '() '(5 (6)) p))", "(1 1)");
    }

    // "%type y l: a RECORD TYPE; .. (a name that is none of the type's: "range"; accessors of what is no such record:
    // "type" with the name accessor, modifier, and it)"; "of a name that it hasn't the irritant is the operand
    // (%constructor's list)"
    private void recordTypes() {
        fresh();
        due("(define-record-type point (make x y) point? (x px px!) (y py) (z pz pz!))", "#<unspecified>");
        due("(define p (make 1 2)) (list (point? p) (point? 5) (px p) (py p) (pz p))", "(#t #f 1 2 #<unspecified>)");
        due("(px! p 7) (pz! p 8) (list (px p) (pz p) p point)", "(7 8 #<record> #<record>)");
        fails("(make 1)", "\"arity\" #<procedure>");
        fails("(make 1 2 3)", "\"arity\" #<procedure>");
        fails("(px)", "\"arity\" #<procedure>");
        fails("(px! p)", "\"arity\" #<procedure>");
        fails("(point?)", "\"arity\" #<procedure>");
        fails("(px 5)", "\"type\" accessor 5");
        fails("(px! 5 1)", "\"type\" modifier 5");
        due("(define-record-type other (create x) other? (x ox))", "#<unspecified>");
        fails("(px (create 1))", "\"type\" accessor #<record>");
        due("(list (point? (create 1)) (other? (create 1)))", "(#f #t)");
        range("%constructor", "point '(x w)", "(x w)");
        range("%accessor", "point 'w", "w");
        range("%modifier", "point 'w", "w");
        due("(procedure? (%constructor point '()))", "#t");
        type("%accessor", "point \"x\"", "\"x\"");
        type("%constructor", "5 '()", "5");
        type("%constructor", "point 5", "5");
        type("%predicate", "p", "#<record>");
        type("%type", "\"t\" '()", "\"t\"");
        type("%type", "'t 'a", "a");
        // "A RECORD TYPE has the names as they were."
        due("(define names (list 'a 'b)) (define t (%type 't names)) (set-car! names 'c) (procedure? (%accessor t 'a))", "#t");
        range("%accessor", "t 'c", "c");
    }

    // "%all-pairs? l: whether all elements are pairs; %cars l, %cdrs l: their cars, cdrs"
    private void ownProcedures() {
        fresh();
        due("(list (%all-pairs? '()) (%all-pairs? '((1) (2 . 3))) (%all-pairs? '((1) 2)) (%cars '((1) (2 . 3))) (%cdrs '((1) (2 . 3)))"
            + " (%cars '()))", "(#t #t #f (1 2) (() 3) ())");
        type("%all-pairs?", "5", "5");
        type("%all-pairs?", "'((1) . 2)", "((1) . 2)");
        type("%cars", "'(1)", "(1)");
        type("%cdrs", "'((1) 2)", "((1) 2)");
        type("%with", "5 '() list", "5");
        type("%with", "'() 5 list", "5");
        type("%with", "'() '() 5", "5");
        type("%call/cc", "5", "5");
        type("call-with-values", "5 5", "5");
        // "%with: HANDLERS and PARAMETERS are as before when f has answered."
        due("(let* ((inside (%with '(1) '((2)) (lambda () (list (%handlers) (%parameters))))) (then (%handlers)))"
            + " (list inside then (%parameters)))", "(((1) ((2))) () ())");
        h.due("(%stop 5) 6", 1, "5");
    }

    // "read-char, peek-char, read-line, read-string k, read (of the INPUT; the eof object at its end ..)"; "read-string 0
    // is """; "INPUT's bytes above 127 are read as ?."
    private void takenInput() {
        fresh();
        due("(list (read-char) (peek-char) (read-line) (read-string 5) (read) (read-string 0))",
            "(#<eof> #<eof> #<eof> #<eof> #<eof> \"\")");
        h.input("abcdef");
        due("(list (peek-char) (peek-char) (read-char) (read-string 0) (read-string 2) (read-char))", "(#\\a #\\a #\\a \"\" \"bc\" #\\d)");
        h.due("bytes left", h.get().count(6), 2);
        due("(list (read-string 3) (read-string 1) (read-char) (peek-char) (read-string 0))", "(\"ef\" #<eof> #<eof> #<eof> \"\")");
        h.input("" + (char) 0 + (char) 127 + (char) 128 + (char) 255);
        due("(list (peek-char) (read-char) (read-char) (read-char) (peek-char) (read-char) (read-char))",
            "(#\\null #\\null #\\delete #\\? #\\? #\\? #<eof>)");
        h.input("" + (char) 200 + (char) 1);
        due("(read-string 2)", "\"?\\x1;\"");
        h.input("abc");
        range("read-string", "10001", "10001");
        h.due("bytes left", h.get().count(6), 3);
        due("(read-string 10000)", "\"abc\"");
    }

    private void lines() {
        fresh();
        h.input("a\n\nb");
        due("(list (read-line) (read-line) (read-line) (read-line))", "(\"a\" \"\" \"b\" #<eof>)");
        h.input("a\n");
        due("(list (read-line) (read-line))", "(\"a\" #<eof>)");
        h.input("\n");
        due("(list (read-line) (read-char))", "(\"\" #<eof>)");
        // "a linefeed, a carriage return, or both" end a line, as the report tells
        h.input("x\r\ny\r\r\nz\r");
        due("(list (read-line) (read-line) (read-line) (read-line) (read-line))", "(\"x\" \"y\" \"\" \"z\" #<eof>)");
        h.input("x".repeat(6000));
        due("(string-length (read-line))", "6000");
        h.input("a" + (char) 0 + "b\n" + (char) 0 + "\n");
        due("(list (read-line) (read-line) (read-line))", "(\"a\\x0;b\" \"\\x0;\" #<eof>)");
        h.input("" + (char) 0);
        due("(list (read-string 1) (read-string 1))", "(\"\\x0;\" #<eof>)");
        h.input((char) 200 + "\n" + (char) 1);
        due("(list (read-line) (read-line))", "(\"?\" \"\\x1;\")");
    }

    // TO WRITE; "display: strings, SYMBOLS and characters as they are"; "\xH; with small digits and no 0 ahead"
    private void written() {
        fresh();
        due("(list (if #f #f) (eof-object) (values) car (lambda () 1) (%type 't '()) (make-parameter 1))",
            "(#<unspecified> #<eof> #<values> #<procedure> #<procedure> #<record> #<procedure>)");
        due("(list (%make-error \"a\\\"\\n\" '()) (%make-error 'a '()) (%make-error \"\" '()))", "(#<error a\"\n> #<error> #<error >)");
        due("(string #\\x0 #\\x7 #\\x8 #\\x9 #\\xa #\\xb #\\xd #\\xf #\\x10 #\\x1f #\\space #\\\" #\\\\ #\\| #\\~ #\\x7f)",
            "\"\\x0;\\a\\x8;\\t\\n\\xb;\\r\\xf;\\x10;\\x1f; \\\"\\\\|~\\x7f;\"");
        due("(map integer->char '(0 1 6 7 8 9 10 11 12 13 14 15 16 26 27 28 31 32 33 126 127))",
            "(#\\null #\\x1 #\\x6 #\\alarm #\\backspace #\\tab #\\newline #\\xb #\\xc #\\return #\\xe #\\xf #\\x10 #\\x1a #\\escape #\\x1c"
            + " #\\x1f #\\space #\\! #\\~ #\\delete)");
        due("#u8(0 9 10 99 100 101 198 199 200 201 255)", "#u8(0 9 10 99 100 101 198 199 200 201 255)");
        due("'(() (a) (a . b) (a b . c) #() #(a (b)) #u8() #u8(0 10 255) 'a `b ,c ,@d #t #f)",
            "(() (a) (a . b) (a b . c) #() #(a (b)) #u8() #u8(0 10 255) (quote a) (quasiquote b) (unquote c)"
            + " (unquote-splicing d) #t #f)");
        h.due("(display '(\"a\\n\" #\\b |c d| (#\\space) #(\"e\")))", 0, "#<unspecified>");
        h.due("OUTPUT", h.told(0), "(a\n b c d ( ) #(e))");
        h.due("(write '(\"a\\n\" #\\b |c d|)) (newline) (write-char #\\x) (write-string \"y\\n\") (display 1.5) (write 'z)", 0,
            "#<unspecified>");
        h.due("OUTPUT", h.told(0), "(\"a\\n\" #\\b |c d|)\nxy\n1.5z");
        h.due("(display (integer->char 0)) (display (%make-error \"m\" '()))", 0, "#<unspecified>");
        h.due("OUTPUT", h.told(0), "" + (char) 0 + "#<error m>");
        type("write-char", "\"a\"", "\"a\"");
    }

    // "SYMBOLS stand in | | if they are empty, have other signs than a TOKEN may, or would be no TOKEN (1+), a NUMBER or ."
    private void writtenSymbols() {
        fresh();
        String[] bare = {"a", "+", "-", "...", "..", "+a", "-1+", "a1", "!$%&*+-./:<=>?@^_~", "inf.0", "+1/0", "+1e1000", "e1",
            "+inf", "a.", "+.e1", "A"};
        for (String s : bare) {
            due("(string->symbol \"" + s + "\")", s);
            due("'|" + s + "|", s);
        }
        String[] barred = {"", "1", "1+", "9a", ".", "-1", "+1", "1/2", "+1/2", "1.5", ".5", "-.5e1", "1e1", "+inf.0", "-nan.0",
            "a b", "#t", "#", "a#", "(", "a)", "'", "`", ",", ";", "[", "{", "1e1000", "#x1"};
        for (String s : barred) due("(string->symbol \"" + s + "\")", "|" + s + "|");
        due("(string->symbol \"a\\\"b\")", "|a\\\"b|");
        due("(string->symbol \"a\\\\b\")", "|a\\\\b|");
        due("(string->symbol \"a|b\")", "|a\\|b|");
        due("(string->symbol \"\\a\\t\\n\\r\\x8;\\x1f;\\x7f;\\x0;\")", "|\\a\\t\\n\\r\\x8;\\x1f;\\x7f;\\x0;|");
        due("(string->symbol \"+" + "1".repeat(39) + "\")", "|+" + "1".repeat(39) + "|");
        due("(eq? '|a\\x7C;b| (string->symbol \"a|b\"))", "#t");
        h.due("(display (list (string->symbol \"\") '|a b| '|1|))", 0, "#<unspecified>");
        h.due("OUTPUT", h.told(0), "( a b 1)");
    }

    // "A pair or vector that is within itself has a LABEL #n= where it is come to first, and #n# where it is come to again
    // (numbers from 0 on in this order); only objects that are come to again from within themselves, cars ahead of cdrs"
    private void writtenLabels() {
        fresh();
        h.input("#0=(a . #0#) #0=(#0#) #0=(a #0#) #0=#(#0#) (x . #0=(a . #0#)) (#0=(1) #0#) #0=(#1=(#1#) #0#)"
            + " (#0=(a . #0#) #1=(b . #1#)) #0=(a . #1=(b #0# . #1#)) (#0=(a . #1=(b . #0#)) #1#) #(#0=#(1) #0# #0#)");
        String[] read = {"#0=(a . #0#)", "#0=(#0#)", "#0=(a #0#)", "#0=#(#0#)", "(x . #0=(a . #0#))", "((1) (1))",
            "#0=(#1=(#1#) #0#)", "(#0=(a . #0#) #1=(b . #1#))", "#0=(a . #1=(b #0# . #1#))",
            "(#0=(a b . #0#) (b . #0#))", "#(#(1) #(1) #(1))"};
        for (String written : read) due("(read)", written);
        due("(define l (list 1 2 3)) (set-car! (cdr l) l) (set-car! (cddr l) (cdr l)) l", "#0=(1 . #1=(#0# #1#))");
        due("(define v (vector 1 2)) (vector-set! v 0 (list v)) (list v v)", "(#0=#((#0#) 2) #0#)");
        h.due("(display l) (write v)", 0, "#<unspecified>");
        h.due("OUTPUT", h.told(0), "#0=(1 . #1=(#0# #1#))#0=#((#0#) 2)");
        due("(define (rings n) (if (= n 0) '() (let ((r (list n))) (set-car! r r) (cons r (rings (- n 1)))))) (length (rings 12))",
            "12");
        due("(list-tail (rings 12) 9)", "(#0=(#0#) #1=(#1#) #2=(#2#))");
        StringBuilder many = new StringBuilder("(");
        for (int i = 0; i < 120; i++) many.append(i == 0 ? "" : " ").append("#").append(i).append("=(#").append(i).append("#)");
        due("(rings 120)", many + ")");
    }

    private void numbersOfOperands() {
        fresh();
        for (String p : new String[] {"eqv?", "eq?", "equal?", "cons", "set-car!", "memq", "assv", "expt", "list-tail", "string-ref",
            "vector-ref", "%type", "%make-error"}) {
            fails("(" + p + " 1)", "\"arity\" #<procedure>");
            fails("(" + p + " 1 2 3)", "\"arity\" #<procedure>");
        }
        for (String p : new String[] {"not", "pair?", "car", "length", "reverse", "list-copy", "symbol->string", "char-upcase",
            "string-length", "string-upcase", "list->vector", "procedure?", "error-object?", "write", "display", "write-char",
            "read-string", "%stop", "%call/cc", "%cars"}) {
            fails("(" + p + ")", "\"arity\" #<procedure>");
            fails("(" + p + " 1 2)", "\"arity\" #<procedure>");
        }
        for (String p : new String[] {"newline", "read-char", "peek-char", "read-line", "read", "eof-object", "%handlers"}) {
            fails("(" + p + " 1)", "\"arity\" #<procedure>");
        }
        for (String p : new String[] {"list-set!", "string-set!", "vector-set!", "bytevector-u8-set!", "%with", "substring"}) {
            fails("(" + p + " 1 2)", "\"arity\" #<procedure>");
            fails("(" + p + " 1 2 3 4)", "\"arity\" #<procedure>");
        }
        for (String p : new String[] {"make-list", "make-string", "make-vector", "make-bytevector", "number->string"}) {
            fails("(" + p + ")", "\"arity\" #<procedure>");
            fails("(" + p + " 1 2 3)", "\"arity\" #<procedure>");
        }
        for (String p : new String[] {"string-copy!", "vector-copy!", "bytevector-copy!"}) {
            fails("(" + p + " 1 2)", "\"arity\" #<procedure>");
            fails("(" + p + " 1 2 3 4 5 6)", "\"arity\" #<procedure>");
        }
        for (String p : new String[] {"boolean=?", "symbol=?", "char=?", "string=?", "string-ci=?", "append", "apply"}) {
            fails("(" + p + ")", "\"arity\" #<procedure>");
        }
    }

    // "What a report's procedure leaves open is UNSPECIFIED."
    private void unspecified() {
        fresh();
        due("(list (set-car! (list 1) 2) (set-cdr! (list 1) 2) (list-set! (list 1) 0 2) (string-set! (string #\\a) 0 #\\b)"
            + " (vector-set! (vector 1) 0 2) (bytevector-u8-set! (bytevector 1) 0 2) (vector-fill! (vector 1) 2)"
            + " (string-fill! (string #\\a) #\\b) (vector-copy! (vector 1) 0 #(2)) (newline) (write 1) (display 1)"
            + " (write-char #\\a) (write-string \"a\") (for-each list '(1)))",
            "(" + "#<unspecified> ".repeat(14) + "#<unspecified>)");
    }

    // THE PRELUDE: what ends its loops
    private void preludeLoops() {
        fresh();
        due("(list (map + '()) (map + '(1 2)) (map + '(1 2 3) '(10 20)) (map list '() '(1)) (map car '((1) (2))))",
            "(() (1 2) (11 22) () (1 2))");
        due("(list (vector-map + #(1 2) #(10 20 30)) (string-map char-upcase \"ab\") (string-map (lambda (a b) b) \"abc\" \"xy\"))",
            "(#(11 22) \"AB\" \"xy\")");
        due("(map (lambda (x) x) '(1 . 2))", "(1)");
        due("(list (and) (and 1) (and 1 #f 2) (or) (or #f) (or #f 2 3) (when #f 1) (when 1 2 3) (unless 1 2) (unless #f 1 2))",
            "(#t 1 #f #f #f 2 #<unspecified> 3 #<unspecified> 2)");
        due("(list (case 3 ((1 2) 'a) ((3) 'b)) (case 4 ((1) 'a) (else 'c)) (case 4 ((1) 2)) (case 4 (else => -)) (case 1 ((1) => -)))",
            "(b c #<unspecified> -4 -1)");
        due("(list (do ((i 0 (+ i 1)) (l '() (cons i l))) ((= i 3) l)) (do ((i 0 (+ i 1))) ((= i 3))))", "((2 1 0) #<unspecified>)");
        due("(list `(1 ,(+ 1 1) ,@(list 3 4) . 5) `#(1 ,@'(2 3)) `(1 `(2 ,(3 ,(+ 1 3)))))",
            "((1 2 3 4 . 5) #(1 2 3) (1 (quasiquote (2 (unquote (3 4))))))");
        due("(let-values (((a b) (values 1 2)) ((c . d) (values 3 4 5)) (e (values))) (list a b c d e))", "(1 2 3 (4 5) ())");
        due("(let*-values (((a) (values 1)) ((b) (values (+ a 1)))) (list a b))", "(1 2)");
        due("(let ((p (delay (begin (display 'x) 5)))) (list (force p) (force p) (force 6) (promise? p) (force (make-promise 7))))",
            "(5 5 6 #t 7)");
        h.due("OUTPUT", h.told(0), "x");
    }
}
