/** The edges that "NUMBERS" names, here and closer: the last case that is still allowed, and the first that is not. */
final class EdgesOfNumbersTest {
    private static final String MOST = "(+ (expt 2 3999) (- (expt 2 3999) 1))";
    private final House h = new House();

    public static void main(String[] args) {
        EdgesOfNumbersTest test = new EdgesOfNumbersTest();
        test.limitOfBits();
        test.limitOfSteps();
        test.nearestFlonums();
        test.flonumsOfIeee();
        test.exactZeros();
        test.noDivisorZero();
        test.compared();
        test.greatestAndLeast();
        test.integersAndFlonums();
        test.divisions();
        test.signsOfBefore();
        test.rounded();
        test.partsOfFlonums();
        test.roots();
        test.powers();
        test.exactOnes();
        test.texts();
        test.radixes();
        test.sameNumbers();
        test.kindsOfNumbers();
        test.numbersOfOperands();
        test.countsFromZero();
        test.unitsOfNumbers();
        House.finish();
    }

    /** A new house in which (c X) is what X answers, or the message and the irritants of its condition. */
    private void fresh() {
        h.fresh();
        h.due("(define-syntax c (syntax-rules () ((_ e) (guard (x ((error-object? x) (cons (error-object-message x)"
            + " (error-object-irritants x)))) e))))", 0, "#<unspecified>");
        h.due("(define most " + MOST + ")", 0, "#<unspecified>");
    }

    private void due(String text, String result) {
        h.due(text, 0, result);
    }

    /** The expression is a condition with this message and these irritants. */
    private void fails(String expression, String condition) {
        h.due("(c " + expression + ")", 0, "(" + condition + ")");
    }

    // "An integer of more than 4000 bits that would be made (also above or below a fraction's line) is the condition
    // "limit"."
    private void limitOfBits() {
        fresh();
        due("(= most (+ (- most 1) 1))", "#t");
        fails("(+ most 1)", "\"limit\" +");
        fails("(- -1 most)", "\"limit\" -");
        due("(+ most (- most))", "0");
        due("(= (- most) (- 0 most))", "#t");
        due("(= (* (expt 2 2000) (expt 2 1999)) (expt 2 3999))", "#t");
        fails("(* (expt 2 2000) (expt 2 2000))", "\"limit\" *");
        due("(= (/ (expt 2 -3999)) (expt 2 3999))", "#t");
        fails("(/ (expt 2 -3999) 2)", "\"limit\" /");
        fails("(/ (expt 2 3999) 1/2)", "\"limit\" /");
        fails("(+ (expt 3 -2000) (expt 2 -2000))", "\"limit\" +");
        due("(exact? (+ (expt 3 -1261) (expt 2 -2000)))", "#t");
        due("(exact? (expt 2 3999))", "#t");
        fails("(expt 2 4000)", "\"limit\" expt");
        fails("(expt -2 4000)", "\"limit\" expt");
        due("(exact? (expt 2 -3999))", "#t");
        fails("(expt 2 -4000)", "\"limit\" expt");
        due("(exact? (expt 1/2 3999))", "#t");
        fails("(expt 1/2 4000)", "\"limit\" expt");
        fails("(expt 3/2 -4000)", "\"limit\" expt");
        due("(exact? (expt 3 2523))", "#t");
        fails("(expt 3 2524)", "\"limit\" expt");
        fails("(expt 2 (expt 10 100))", "\"limit\" expt");
        fails("(expt 2 4000.0)", "\"limit\" expt");
        due("(expt 2 3999.0)", "+inf.0");
        due("(exact? (square (expt 2 1999)))", "#t");
        fails("(square (expt 2 2000))", "\"limit\" square");
        due("(= (lcm (expt 2 3998) 3) (* 3 (expt 2 3998)))", "#t");
        fails("(lcm (expt 2 3999) 3)", "\"limit\" lcm");
        due("(= (gcd most most) most)", "#t");
        due("(string-length (number->string most 2))", "4000");
        due("(string-length (number->string (- (/ most (expt 2 3999))) 2))", "8002");
        due("(call-with-values (lambda () (exact-integer-sqrt most)) (lambda (r s) (= most (+ (* r r) s))))", "#t");
    }

    // "Each step of + - * / is asked for "limit"."; "All operands are asked for "type" ahead of reckoning."
    private void limitOfSteps() {
        fresh();
        fails("(+ most 1 -1)", "\"limit\" +");
        due("(= most (+ most -1 1))", "#t");
        fails("(- (- most) 1 -1)", "\"limit\" -");
        fails("(* most 2 1/2)", "\"limit\" *");
        due("(= most (* most 1/2 2))", "#t");
        fails("(/ most 1/2 2)", "\"limit\" /");
        fails("(* most 2 0)", "\"limit\" *");
        due("(+ most 1 0.5)", "+inf.0");
        fails("(+ most 1 'a)", "\"type\" + a");
        fails("(/ 1 0 'a)", "\"type\" / a");
        fails("(+ 'b most 1 'a)", "\"type\" + b");
        fails("(- 'a)", "\"type\" - a");
        fails("(+ 'a)", "\"type\" + a");
        fails("(max 'a)", "\"type\" max a");
        fails("(< 2 1 'a)", "\"type\" < a");
        fails("(expt 2 0.5)", "\"type\" expt 0.5");
        fails("(expt 'a 0.5)", "\"type\" expt a");
    }

    // "A number is made a FLONUM: the nearest one, of two the even one (too great: inf)."
    private void nearestFlonums() {
        fresh();
        due("(map inexact '(9007199254740991 9007199254740992 9007199254740993 9007199254740994 9007199254740995))",
            "(9007199254740991.0 9007199254740992.0 9007199254740992.0 9007199254740994.0 9007199254740996.0)");
        due("(inexact 18014398509481985/2)", "9007199254740992.0");
        due("(inexact 18014398509481987/2)", "9007199254740994.0");
        due("(inexact (- (expt 2 1024) (expt 2 970) 1))", "1.7976931348623157e308");
        due("(inexact (- (expt 2 1024) (expt 2 970)))", "+inf.0");
        due("(inexact (- (expt 2 970) (expt 2 1024) -1))", "-1.7976931348623157e308");
        due("(inexact (- (expt 2 970) (expt 2 1024)))", "-inf.0");
        due("(inexact most)", "+inf.0");
        due("(inexact (/ most))", "0.0");
        due("(inexact (- (/ most)))", "-0.0");
        due("(inexact (expt 2 -1074))", "5e-324");
        due("(inexact (expt 2 -1075))", "0.0");
        due("(inexact (+ (expt 2 -1075) (expt 2 -2000)))", "5e-324");
        due("(inexact (* 3 (expt 2 -1075)))", "1e-323");
        due("(inexact (- (expt 2 -1022) (expt 2 -1075)))", "2.2250738585072014e-308");
        due("(inexact (- (expt 2 -1022) (* 3 (expt 2 -1076))))", "2.225073858507201e-308");
        due("'(1.7976931348623158e308 1.7976931348623159e308)", "(1.7976931348623157e308 +inf.0)");
        due("'(2.4703282292062327e-324 2.4703282292062328e-324)", "(0.0 5e-324)");
        due("'(9007199254740993.0 9007199254740993.00000000000000000001)", "(9007199254740992.0 9007199254740994.0)");
        due("(inexact 1/3)", "0.3333333333333333");
    }

    // "FLONUMS come of + - * / sqrt as IEEE 754 says, .. one operation after the other, from the left"
    private void flonumsOfIeee() {
        fresh();
        due("(list (+ .1 .2 .3) (+ .3 .2 .1))", "(0.6000000000000001 0.6)");
        due("(list (+ 1e308 1e308 -1e308) (+ 1e308 -1e308 1e308))", "(+inf.0 1e308)");
        due("(list (+ 9007199254740993 0.0 1) (+ 1 9007199254740993 0.0))", "(9007199254740992.0 9007199254740992.0)");
        due("(list (+ 1/3 1/3 1/3 0.) (- 1 1/3 0.))", "(1.0 0.6666666666666667)");
        due("(list (/ 1. 0) (/ 1 0.) (/ -1. 0) (/ 1 -0.0) (/ 0.) (/ -0.0) (/ 0 0.) (/ 0. 0))",
            "(+inf.0 +inf.0 -inf.0 -inf.0 +inf.0 -inf.0 +nan.0 +nan.0)");
        due("(list (- 0.0) (- -0.0) (- 0 0.0) (+ -0.0 0) (+ -0.0 -0.0) (* -1 0.) (- 0.0 0.0))",
            "(-0.0 0.0 0.0 0.0 -0.0 -0.0 0.0)");
        due("(list (- +inf.0) (- +nan.0) (+ +inf.0 -inf.0) (* 0. +inf.0) (- +inf.0 1) (/ 1 +inf.0) (/ 1 -inf.0))",
            "(-inf.0 +nan.0 +nan.0 +nan.0 +inf.0 0.0 -0.0)");
        due("(list (* 5e-324 .5) (* 5e-324 .75) (* 1.5 5e-324) (/ 5e-324 2) (* 1e-200 1e-200) (* 1e200 1e200))",
            "(0.0 5e-324 1e-323 0.0 0.0 +inf.0)");
        due("(list (sqrt 2.) (sqrt 1e-320) (sqrt 5e-324) (sqrt 1.7976931348623157e308))",
            "(1.4142135623730951 9.99994433575849e-161 2.2227587494850775e-162 1.3407807929942596e154)");
    }

    // "an exact 0 times anything is 0 only if all are exact"
    private void exactZeros() {
        fresh();
        due("(list (* 0 5) (* 0 1/2) (* 0 1.5) (* 1.5 0) (* 0 +inf.0) (* 0 +nan.0) (* 0 0 -1.0))",
            "(0 0 0.0 0.0 +nan.0 +nan.0 -0.0)");
        due("(list (+) (*) (+ 5) (* 1.5) (gcd) (lcm))", "(0 1 5 1.5 0 1)");
    }

    // ""zero" of / : an exact 0 behind the first operand (or alone) when all are exact"
    private void noDivisorZero() {
        fresh();
        fails("(/ 0)", "\"zero\" /");
        fails("(/ 1 0)", "\"zero\" /");
        fails("(/ 0 0)", "\"zero\" /");
        fails("(/ 1 2 0)", "\"zero\" /");
        fails("(/ 1/2 0)", "\"zero\" /");
        due("(list (/ 0 1) (/ 0 -5 7) (/ 1 0 1.) (/ 0 0.5))", "(0 0 +inf.0 0.0)");
        fails("(/ most 1/2 0)", "\"limit\" /");
        String[] names = {"quotient", "remainder", "modulo", "floor-quotient", "floor-remainder", "truncate-quotient",
            "truncate-remainder", "floor/", "truncate/"};
        for (String name : names) {
            fails("(" + name + " 1 0)", "\"zero\" " + name);
            fails("(" + name + " 1 0.0)", "\"zero\" " + name);
            fails("(" + name + " 1.0 -0.0)", "\"zero\" " + name);
            fails("(" + name + " 'a 0)", "\"type\" " + name + " a");
            fails("(" + name + " 1 1.5)", "\"type\" " + name + " 1.5");
            fails("(" + name + " +inf.0 1)", "\"type\" " + name + " +inf.0");
        }
        fails("(expt 0 -1)", "\"zero\" expt");
        fails("(expt 0 -1.0)", "\"zero\" expt");
        due("(list (expt 0.0 -1) (expt -0.0 -1) (expt 0 0) (expt 0 1))", "(+inf.0 -inf.0 1 0)");
    }

    // "Comparing is by exact values."
    private void compared() {
        fresh();
        due("(list (= 9007199254740993 9007199254740992.) (< 9007199254740992. 9007199254740993) (= .1 1/10)"
            + " (> .1 1/10) (= .5 1/2) (= 0 0. -0.0))", "(#f #t #f #t #t #t)");
        due("(list (< most +inf.0) (> (- most) -inf.0) (= +inf.0 +inf.0) (< -inf.0 +inf.0) (= most (inexact most)))",
            "(#t #t #t #t #f)");
        due("(list (= +nan.0 +nan.0) (< +nan.0 1) (>= 1 +nan.0) (<= +nan.0 +nan.0) (> +inf.0 +nan.0))",
            "(#f #f #f #f #f)");
        due("(list (<= 1 1 2) (< 1 1 2) (>= 2 2 1) (> 2 2 1) (< 1 2 3) (< 1 3 2) (= 1 1 2) (= 1 1. 2/2))",
            "(#t #f #t #f #t #f #f #t)");
        due("(list (= 1) (< 1) (> 1) (<= +nan.0) (>= 1))", "(#t #t #t #t #t)");
        due("(list (zero? -0.0) (zero? +nan.0) (positive? 0) (negative? -0.0) (positive? +inf.0) (negative? -5e-324)"
            + " (positive? +nan.0))", "(#t #f #f #f #t #t #f)");
    }

    // "max, min: the first greatest, least by > and <, made a FLONUM if one of the operands is one"
    private void greatestAndLeast() {
        fresh();
        due("(list (max 1 2) (max 1 2.) (max 2 1.) (min 1 2.) (min 1/2 1/3) (max 0 -0.0) (max -0.0 0) (min 0. -0.0))",
            "(2 2.0 2.0 1.0 1/3 0.0 -0.0 0.0)");
        due("(list (max 1 +nan.0) (max +nan.0 1) (min +nan.0 1) (max 5) (min 1/2) (max most 0.) (max -0.0 0.0))",
            "(1.0 +nan.0 +nan.0 5 1/2 +inf.0 -0.0)");
    }

    // "Integers are also FLONUMS without fraction: quotient and its like, gcd, lcm, even?, odd? take them; the answer is
    // reckoned exactly, and a FLONUM if one operand is."
    private void integersAndFlonums() {
        fresh();
        due("(list (even? 2.) (odd? 3.) (even? 0) (even? -0.0) (odd? -1) (even? 1e300))", "(#t #t #t #t #t #t)");
        fails("(even? 1.5)", "\"type\" even? 1.5");
        fails("(odd? +inf.0)", "\"type\" odd? +inf.0");
        fails("(odd? +nan.0)", "\"type\" odd? +nan.0");
        fails("(even? 1/2)", "\"type\" even? 1/2");
        fails("(gcd 2 1.5)", "\"type\" gcd 1.5");
        fails("(lcm 1/2 'a)", "\"type\" lcm 1/2");
        due("(list (gcd 12 -18) (gcd 12 -18.) (gcd 0 0) (gcd 0 5) (gcd -4) (lcm 4 -6) (lcm 4. 6) (lcm 0 5) (lcm 0. 5))",
            "(6 6.0 0 5 4 12 12.0 0 0.0)");
        due("(list (quotient 7 2.) (modulo -7. 2) (quotient 1 -2.) (remainder -4. 2) (quotient 9007199254740993 1.))",
            "(3.0 1.0 0.0 0.0 9007199254740992.0)");
        due("(= (quotient (expt 10 30) 1e15) (expt 10 15))", "#t");
    }

    private void divisions() {
        fresh();
        String[] names = {"quotient", "remainder", "modulo", "floor-quotient", "floor-remainder", "truncate-quotient",
            "truncate-remainder"};
        String[] answers = {"(3 -3 -3 3)", "(1 -1 1 -1)", "(1 1 -1 -1)", "(3 -4 -4 3)", "(1 1 -1 -1)", "(3 -3 -3 3)",
            "(1 -1 1 -1)"};
        for (int i = 0; i < names.length; i++) due("(map " + names[i] + " '(7 -7 7 -7) '(2 2 -2 -2))", answers[i]);
        due("(call-with-values (lambda () (floor/ -7 2)) list)", "(-4 1)");
        due("(call-with-values (lambda () (truncate/ -7 2)) list)", "(-3 -1)");
        due("(call-with-values (lambda () (floor/ -7 2.)) list)", "(-4.0 1.0)");
        due("(list (modulo -4 2) (modulo 4 -2) (floor-quotient -4 2) (modulo 0 5) (modulo 0. -5))", "(0 0 -2 0 0.0)");
    }

    /** What an operation ahead left behind has no part in the next one. */
    private void signsOfBefore() {
        fresh();
        String[] before = {"(* -1 2)", "(+ 1 -2)", "(- -1/2 1/3)", "(quotient -7 2)", "(floor/ -7 2)", "(expt -2 3)", "(- -5.5 1)",
            "(exact -1.5)", "(< -1/2 -1/3)", "(string->number \"-1/2\")", "(number->string -12)", "(round -7/2)", "(abs -5)",
            "(numerator -0.5)", "(sqrt 1e-3)", "(max -1 -2.5)", "(/ -1 3)", "(lcm -4 6)", "(even? -3)", "(* -1.5 most)"};
        String[] after = {"(gcd 4 6)", "(lcm 4 6)", "(sqrt 16)", "(sqrt 4/9)", "(expt 2 3)", "(expt 2/3 -2)", "(quotient 7 2)",
            "(modulo 7 2)", "(+ 1 2)", "(* 1/2 3)", "(exact 1.5)", "(floor 7/2)", "(inexact 1/4)", "(string->number \"12\")",
            "(number->string 12)", "(numerator .5)", "(- -5)", "(+ .5 1)", "(max 1 2.5)", "(abs 5)"};
        String[] answers = {"2", "12", "4", "2/3", "8", "9/4", "3", "1", "3", "3/2", "3/2", "3", "0.25", "12", "\"12\"", "1.0", "5",
            "1.5", "2.5", "5"};
        for (String first : before) {
            for (int i = 0; i < after.length; i++) due("(begin " + first + " " + after[i] + ")", answers[i]);
            due("(begin " + first + " (call-with-values (lambda () (exact-integer-sqrt 17)) list))", "(4 1)");
            due("(begin " + first + " (call-with-values (lambda () (floor/ 7 2)) list))", "(3 1)");
            fresh();
        }
    }

    // "floor, ceiling, truncate, round (ties to even) of FLONUMS are FLONUMS"; "floor and its like of inf, nan are
    // themselves"
    private void rounded() {
        fresh();
        String numbers = " '(5/2 7/2 -5/2 -7/2 2.5 3.5 -2.5 -3.5 0.5 1.5 7 -7.))";
        due("(map round" + numbers, "(2 4 -2 -4 2.0 4.0 -2.0 -4.0 0.0 2.0 7 -7.0)");
        due("(map floor" + numbers, "(2 3 -3 -4 2.0 3.0 -3.0 -4.0 0.0 1.0 7 -7.0)");
        due("(map ceiling" + numbers, "(3 4 -2 -3 3.0 4.0 -2.0 -3.0 1.0 2.0 7 -7.0)");
        due("(map truncate" + numbers, "(2 3 -2 -3 2.0 3.0 -2.0 -3.0 0.0 1.0 7 -7.0)");
        due("(list (round 0.49999999999999994) (round 4503599627370495.5) (round 4503599627370496.5) (round 5/3))",
            "(0.0 4503599627370496.0 4503599627370496.0 2)");
        for (String p : new String[] {"floor", "ceiling", "truncate", "round"}) {
            due("(map " + p + " '(+inf.0 -inf.0 +nan.0 1e308))", "(+inf.0 -inf.0 +nan.0 1e308)");
        }
    }

    // "numerator, denominator of FLONUMS likewise"; "numerator, denominator "range" [of inf, nan]; (numerator -0.0) is
    // 0.0"
    private void partsOfFlonums() {
        fresh();
        due("(map numerator '(6/4 -1/3 5 0 .75 -.75 -0.0 0.0 4.))", "(3 -1 5 0 3.0 -3.0 0.0 0.0 4.0)");
        due("(map denominator '(6/4 -1/3 5 0 .75 .1 -0.0 4.))", "(2 3 1 1 4.0 36028797018963970.0 1.0 1.0)");
        due("(denominator 5e-324)", "+inf.0");
        for (String p : new String[] {"numerator", "denominator"}) {
            for (String n : new String[] {"+inf.0", "-inf.0", "+nan.0"}) {
                fails("(" + p + " " + n + ")", "\"range\" " + p + " " + n);
            }
        }
    }

    // "sqrt: exact of exact squares (of fractions too), else the FLONUM's; below 0 "range""; "sqrt -0.0 is -0.0, of nan
    // nan"
    private void roots() {
        fresh();
        due("(map sqrt '(0 1 4 16 1/4 16/9 2 1/3 8/9 4. 0. -0.0 +inf.0 +nan.0))",
            "(0 1 2 4 1/2 4/3 1.4142135623730951 0.5773502691896257 0.9428090415820634 2.0 0.0 -0.0 +inf.0 +nan.0)");
        for (String n : new String[] {"-1", "-1/4", "-4.0", "-5e-324", "-inf.0"}) {
            fails("(sqrt " + n + ")", "\"range\" sqrt " + n);
        }
        due("(= (sqrt (expt 10 1000)) (expt 10 500))", "#t");
        due("(sqrt (+ 1 (expt 10 1000)))", "+inf.0");
        due("(sqrt (/ 2 (expt 10 1000)))", "0.0");
        due("(map (lambda (k) (call-with-values (lambda () (exact-integer-sqrt k)) list)) '(0 1 3 4 17 24 25))",
            "((0 0) (1 0) (1 2) (2 0) (4 1) (4 8) (5 0))");
        fails("(exact-integer-sqrt -1)", "\"type\" exact-integer-sqrt -1");
        fails("(exact-integer-sqrt 4.0)", "\"type\" exact-integer-sqrt 4.0");
        fails("(exact-integer-sqrt 1/4)", "\"type\" exact-integer-sqrt 1/4");
    }

    // "expt: the second one an integer (else "type"): .. exponents of any size of 0, 1, -1"; "of a FLONUM: r = 1.0, for
    // each bit of the exponent's size from the highest on r = r * r, and r = r * base if it is set; below 0: 1 through
    // that"; "expt with a FLONUM that is an integer: exact reckoned, if the base is exact, and made a FLONUM"
    private void powers() {
        fresh();
        due("(list (expt 0 0) (expt 0 0.) (expt 0. 0) (expt +nan.0 0) (expt 5 0) (expt 1/2 0) (expt -0.0 3))",
            "(1 1.0 1.0 1.0 1 1 -0.0)");
        due("(define huge (expt 10 1000))", "#<unspecified>");
        due("(list (expt 0 huge) (expt 1 huge) (expt -1 huge) (expt -1 (+ huge 1)) (expt 1 (- huge)) (expt -1 (- -1 huge)))",
            "(0 1 1 -1 1 -1)");
        due("(list (expt 1. huge) (expt 2. huge) (expt .5 huge) (expt -1. (+ 1 huge)) (expt 2. (- huge)) (expt 1 1e300))",
            "(1.0 +inf.0 0.0 -1.0 0.0 1.0)");
        fails("(expt 0 (- huge))", "\"zero\" expt");
        fails("(expt 2 huge)", "\"limit\" expt");
        fails("(expt 1/2 (- huge))", "\"limit\" expt");
        for (String n : new String[] {"1/2", "0.5", "+inf.0", "+nan.0", "a"}) {
            fails("(expt 2 '" + n + ")", "\"type\" expt " + n);
        }
        due("(list (expt 2 10) (expt 2 -2) (expt -2 3) (expt -2 -3) (expt 2/3 2) (expt 2/3 -2) (expt 2 3.) (expt 2 -1.))",
            "(1024 1/4 -8 -1/8 4/9 9/4 8.0 0.5)");
        due("(list (expt 1.1 10) (expt 1.1 -10) (expt 2. 1023) (expt 2. 1024) (expt 2. -1074) (expt -2. 3))",
            "(" + power(1.1, 10) + " " + 1 / power(1.1, 10) + " 8.98846567431158e307 +inf.0 0.0 -8.0)");
    }

    private static double power(double base, int exponent) {
        double r = 1;
        for (int bit = 31 - Integer.numberOfLeadingZeros(exponent); bit >= 0; bit--) {
            r = r * r;
            if ((exponent >> bit & 1) == 1) r = r * base;
        }
        return r;
    }

    // "exact of inf, nan: "range""
    private void exactOnes() {
        fresh();
        due("(list (exact 1.5) (exact -0.0) (exact 2.) (exact 5) (exact 1/3) (exact .1))",
            "(3/2 0 2 5 1/3 3602879701896397/36028797018963968)");
        due("(= (exact 1.7976931348623157e308) (- (expt 2 1024) (expt 2 971)))", "#t");
        due("(= (exact 5e-324) (expt 2 -1074))", "#t");
        for (String n : new String[] {"+inf.0", "-inf.0", "+nan.0"}) {
            fails("(exact " + n + ")", "\"range\" exact " + n);
            due("(inexact " + n + ")", n);
        }
        fails("(exact 'a)", "\"type\" exact a");
    }

    // "with 10^-7 <= size < 10^21 (and 0) as digits with a . and one digit at least on both sides, else d.ddd or d, e,
    // the exponent (- ahead if below 0)"; "A FLONUM's size is asked exactly where it is written (1e-7 is below 10^-7)."
    private void texts() {
        fresh();
        due("'(1e-7 1.0000000000000001e-7 1.0000000000000002e-7 .000001 -1e-7 -1.0000000000000001e-7)",
            "(1e-7 0.00000010000000000000001 0.00000010000000000000002 0.000001 -1e-7 -0.00000010000000000000001)");
        due("'(1e21 999999999999999900000. 1e20 -1e21 1.5e21 1e22 123456789012345680000.)",
            "(1e21 999999999999999900000.0 100000000000000000000.0 -1e21 1.5e21 1e22 123456789012345680000.0)");
        due("'(0. -0.0 1. .1 100. 1e300 1.5e-300 1.25e100 -1.25e-100 12345.678)",
            "(0.0 -0.0 1.0 0.1 100.0 1e300 1.5e-300 1.25e100 -1.25e-100 12345.678)");
        due("'(5e-324 1e-323 2.2250738585072014e-308 2.225073858507201e-308 1.7976931348623157e308)",
            "(5e-324 1e-323 2.2250738585072014e-308 2.225073858507201e-308 1.7976931348623157e308)");
        due("'(.30000000000000004 .1 9007199254740993. 1e23 9.5e-7 4.35 2e-8 1.1e-7)",
            "(0.30000000000000004 0.1 9007199254740992.0 1e23 0.00000095 4.35 2e-8 0.00000011)");
        due("'(1e-8 1e-9 1e-10 1e-11 1e-99 1e-100 1e-101 1e-199 1e-200 1e99 1e100 1e101 1e199 1e200 1e109)",
            "(1e-8 1e-9 1e-10 1e-11 1e-99 1e-100 1e-101 1e-199 1e-200 1e99 1e100 1e101 1e199 1e200 1e109)");
        // "of these the nearest to it (then the even last digit)"
        due("'(1125899906842624.25 1125899906842624.75 -1125899906842625.25)",
            "(1125899906842624.2 1125899906842624.8 -1125899906842625.2)");
        // the middle between two is the nearest to the even one, and no text of the odd one
        due("'(4.73e21 4.730000000000001e21 4.75e21 4.749999999999999e21 1e23 1.0000000000000001e23)",
            "(4.73e21 4.730000000000001e21 4.75e21 4.749999999999999e21 1e23 1.0000000000000001e23)");
        due("(map (lambda (n) (/ 1. n)) '(3 7 1e30 -9))",
            "(0.3333333333333333 0.14285714285714285 9.999999999999999e-31 -0.1111111111111111)");
    }

    // "number->string n [k], string->number s [k] (k 2 8 10 16)"; "FLONUMS (radix 10 alone, else "range")";
    // "(number->string 1.5 2): "range" with the 2"
    private void radixes() {
        fresh();
        due("(map (lambda (k) (number->string -255/16 k)) '(2 8 10 16))",
            "(\"-11111111/10000\" \"-377/20\" \"-255/16\" \"-ff/10\")");
        due("(list (number->string 1.5) (number->string 1.5 10) (number->string +inf.0 10))", "(\"1.5\" \"1.5\" \"+inf.0\")");
        for (String k : new String[] {"2", "8", "16"}) {
            fails("(number->string 1.5 " + k + ")", "\"range\" number->string " + k);
            fails("(number->string +nan.0 " + k + ")", "\"range\" number->string " + k);
        }
        for (String k : new String[] {"0", "1", "3", "7", "9", "11", "15", "17", "36", "100000000000"}) {
            fails("(number->string 1 " + k + ")", "\"range\" number->string " + k);
            fails("(string->number \"1\" " + k + ")", "\"range\" string->number " + k);
        }
        for (String k : new String[] {"-2", "2.0", "1/2", "a"}) {
            fails("(number->string 1 '" + k + ")", "\"type\" number->string " + k);
            fails("(string->number \"1\" '" + k + ")", "\"type\" string->number " + k);
        }
        fails("(number->string 'a 3)", "\"type\" number->string a");
        fails("(string->number 1)", "\"type\" string->number 1");
        due("(map string->number '(\"1\" \"-1/2\" \"#xff\" \"1e2\" \"+inf.0\" \"#i1\" \"007\"))", "(1 -1/2 255 100.0 +inf.0 1.0 7)");
        due("(map string->number '(\"\" \"a\" \"+\" \"-\" \".\" \"1/0\" \" 1\" \"1 \" \"1+\" \"#\" \"--1\" \"1e\" \"#e+inf.0\" \"1\\n\"))",
            "(#f #f #f #f #f #f #f #f #f #f #f #f #f #f)");
        due("(list (string->number \"10\" 2) (string->number \"12\" 2) (string->number \"17\" 8) (string->number \"18\" 8)"
            + " (string->number \"1e1\" 16) (string->number \"#d10\" 16) (string->number \"1.5\" 16)"
            + " (string->number \"+inf.0\" 2) (string->number \"fF\" 16))", "(2 #f 15 #f 481 10 #f +inf.0 255)");
    }

    // "eqv? of numbers: both exact or both FLONUMS, and of the same value (0.0 and -0.0 are two, nan is one)"
    private void sameNumbers() {
        fresh();
        due("(list (eqv? 1 1.) (eqv? 0. -0.0) (eqv? +nan.0 -nan.0) (eqv? 1/2 2/4) (eqv? 1/2 .5) (eqv? 1.5 1.5))",
            "(#f #f #t #t #f #t)");
        due("(list (eq? 1.5 1.5) (eq? most (+ most -1 1)) (eq? 100000000000000000000 100000000000000000000)"
            + " (equal? 1 1.) (eqv? most (- most)))", "(#t #t #t #f #f)");
        due("(list (eqv? 4294967296/3 4294967296/3) (eqv? 4294967296/3 4294967297/3) (eqv? 3/4294967296 3/4294967296)"
            + " (eqv? 4294967296/3 7/3) (eqv? 3/4294967296 3/4294967297) (eqv? 4294967296/3 -4294967296/3))",
            "(#t #f #t #f #f #f)");
        due("(list (eqv? 268435455 268435455) (eqv? 268435456 268435456) (eqv? -268435456 (- 268435456)))", "(#t #t #t)");
    }

    private void kindsOfNumbers() {
        fresh();
        String numbers = " '(1 1/2 1. 1.5 +inf.0 +nan.0))";
        due("(map integer?" + numbers, "(#t #f #t #f #f #f)");
        due("(map rational?" + numbers, "(#t #t #t #t #f #f)");
        due("(map real?" + numbers, "(#t #t #t #t #t #t)");
        due("(map exact-integer?" + numbers, "(#t #f #f #f #f #f)");
        due("(map exact?" + numbers, "(#t #t #f #f #f #f)");
        due("(map finite?" + numbers, "(#t #t #t #t #f #f)");
        due("(map infinite?" + numbers, "(#f #f #f #f #t #f)");
        due("(map nan?" + numbers, "(#f #f #f #f #f #t)");
        due("(list (number? 'a) (complex? \"1\") (integer? #\\1) (exact-integer? '()))", "(#f #f #f #f)");
        for (String p : new String[] {"exact?", "inexact?", "finite?", "infinite?", "nan?", "zero?", "positive?", "negative?",
            "abs", "square", "sqrt", "floor", "numerator", "inexact"}) {
            fails("(" + p + " 'a)", "\"type\" " + p + " a");
        }
    }

    // "(+ x), (* x), (max x) are x"; "n n .." take one operand
    private void numbersOfOperands() {
        fresh();
        for (String p : new String[] {"=", "<", ">", "<=", ">=", "max", "min", "-", "/"}) {
            due("(caar (list (c (" + p + "))))", "\"arity\"");
            h.feed("(" + p + " 1)");
            h.due(p + " of one", h.get().evaluate(), 0);
        }
        for (String p : new String[] {"zero?", "even?", "abs", "sqrt", "exact", "numerator", "square", "exact-integer-sqrt"}) {
            due("(car (c (" + p + ")))", "\"arity\"");
            due("(car (c (" + p + " 1 2)))", "\"arity\"");
        }
        for (String p : new String[] {"quotient", "floor/", "expt"}) {
            due("(car (c (" + p + " 1)))", "\"arity\"");
            due("(car (c (" + p + " 1 2 3)))", "\"arity\"");
        }
        due("(list (abs -5) (abs -1/2) (abs -1.5) (abs -0.0) (abs 0) (- 0) (- 5) (/ 4) (/ -1/2))",
            "(5 1/2 1.5 -0.0 0 0 -5 1/4 -2)");
    }

    // "A k that is below 0, no integer, or no exact one is "type"."
    private void countsFromZero() {
        fresh();
        for (String k : new String[] {"-1", "1.0", "1/2", "a", "+nan.0", "-100000000000000000000"}) {
            fails("(make-vector '" + k + ")", "\"type\" make-vector " + k);
            fails("(list-tail '(1 2) '" + k + ")", "\"type\" list-tail " + k);
            fails("(string-ref \"ab\" '" + k + ")", "\"type\" string-ref " + k);
            fails("(integer->char '" + k + ")", "\"type\" integer->char " + k);
            fails("(bytevector '" + k + ")", "\"type\" bytevector " + k);
        }
        due("(list (make-vector 0) (list-tail '(1 2) 0) (string-ref \"ab\" 0) (integer->char 0) (bytevector 0))",
            "(#() (1 2) #\\a #\\null #u8(0))");
    }

    // "an exact integer of more than 28 bits 2 and a 32nd of its bits (up), a fraction 2 and a 32nd of the bits (up) of
    // each of its parts (small ones too), a FLONUM 4"
    private void unitsOfNumbers() {
        h.fresh();
        h.due("268435455", 0, "268435455", "", 1);
        h.due("268435456", 0, "268435456", "", 1 + 3);
        h.due("-268435455", 0, "-268435455", "", 1);
        h.due("-268435456", 0, "-268435456", "", 1 + 3);
        h.due("4294967295", 0, "4294967295", "", 1 + 3);
        h.due("4294967296", 0, "4294967296", "", 1 + 4);
        h.due("18446744073709551615", 0, "18446744073709551615", "", 1 + 4);
        h.due("18446744073709551616", 0, "18446744073709551616", "", 1 + 5);
        h.due("1/2", 0, "1/2", "", 1 + 4);
        h.due("-1/4294967295", 0, "-1/4294967295", "", 1 + 4);
        h.due("1/4294967296", 0, "1/4294967296", "", 1 + 5);
        h.due("4294967296/4294967297", 0, "4294967296/4294967297", "", 1 + 6);
        h.due("4/2", 0, "2", "", 1);
        h.due("1.", 0, "1.0", "", 1 + 4);
        h.due("+nan.0", 0, "+nan.0", "", 1 + 4);
        int call = 3 + 4 + 4;
        h.due("(+ 268435455 0)", 0, "268435455", "", call);
        h.due("(+ 268435455 1)", 0, "268435456", "", call + 3);
        h.due("(* 16384 16384)", 0, "268435456", "", call + 3);
        h.due("(- 268435456 1)", 0, "268435455", "", call + 3);
        h.due("(quotient 268435455 1)", 0, "268435455", "", call);
        h.due("(quotient 268435456 1)", 0, "268435456", "", call + 3 + 3);
        h.due("(gcd 4294967295 0)", 0, "4294967295", "", call + 3 + 3);
        h.due("(gcd 4294967296 0)", 0, "4294967296", "", call + 4 + 4);
        h.due("(floor 8589934591/2)", 0, "4294967295", "", call - 3 + 2 + 2 + 1 + 3);
        h.due("(/ 1 2)", 0, "1/2", "", call + 4);
        h.due("(+ 1/2 1/2)", 0, "1", "", call + 4 + 4);
        h.due("(= #x" + "f".repeat(1000) + " 1)", 0, "#f", "", call + 2 + 125);
    }
}
