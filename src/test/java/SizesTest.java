/** RULES, uses and libraries of many parts, and what is expanded in vain again and again. */
final class SizesTest {
    private static final String ONES = "#0=#(" + "1 ".repeat(999) + "1)" + "#0#".repeat(1100);
    private final House h = new House();

    public static void main(String[] args) {
        SizesTest test = new SizesTest();
        test.manyIdentifiers();
        test.manyRows();
        test.longMatches();
        test.longTemplates();
        test.longLooks();
        test.expandedInVain();
        test.manyLibraries();
        test.operands();
        test.lineEnds();
        House.finish();
    }

    /** So many different SYMBOLS of one or two signs, none of them used in the texts below. */
    private static String symbols(int n) {
        String letters = "abcdefghijklmnopqrstuvwxyzABCDEFGHIJKLMNOPQRSTUVWXYZ";
        StringBuilder all = new StringBuilder();
        int made = 0;
        for (int i = 0; i < letters.length() && made < n; i++) {
            if ("dkrAFGHqvx".indexOf(letters.charAt(i)) >= 0) continue;
            all.append(letters.charAt(i)).append(' ');
            made++;
        }
        for (int i = 0; i < letters.length() && made < n; i++) {
            for (int j = 0; j < letters.length() && made < n; j++) {
                if (letters.charAt(i) == 'k' && letters.charAt(j) == 's') continue;
                all.append(letters.charAt(i)).append(letters.charAt(j)).append(' ');
                made++;
            }
        }
        return all.toString().trim();
    }

    /** A PATTERN, a TEMPLATE with thousands of IDENTIFIERS, as VECTORS of ALIASES. */
    private void manyIdentifiers() {
        for (int times = 1; times <= 5; times++) {
            h.fresh();
            h.due("(define-syntax A (syntax-rules () ((_ (k . ks) . r) (k ks #(" + symbols(1900) + ") . r))))", 0,
                "#<unspecified>");
            h.due("(define-syntax q (syntax-rules () ((_ a ... b) b)))", 0, "#<unspecified>");
            h.due("(define-syntax F (syntax-rules () ((_ ks v ...) (define-syntax good (syntax-rules () ((_)"
                + " (q v ... ((lambda (d) d) 7))))))))", 0, "#<unspecified>");
            h.due("(define-syntax G (syntax-rules () ((_ ks v ...) (define-syntax bad (syntax-rules ()"
                + " ((_ v ... d d) 1))))))", 0, "#<unspecified>");
            h.due("(define-syntax H (syntax-rules () ((_ ks v ...) (define-syntax take (syntax-rules ()"
                + " ((_ v ... d) d))))))", 0, "#<unspecified>");
            String as = "A ".repeat(times);
            h.due("(A (" + as.substring(2) + "F))", 0, "#<unspecified>");
            h.due("(good)", 0, "7");
            h.due("(A (" + as.substring(2) + "G))", 1, "#<error syntax>");
            h.due("(A (" + as.substring(2) + "H))", 0, "#<unspecified>");
            h.due("(A (" + as.substring(2) + "take) 5)", 1, "#<error syntax>");
        }
    }

    /** Up to 20000 things in rows within rows, the rows made twice. */
    private void manyRows() {
        h.fresh();
        h.due("(define-syntax w (syntax-rules () ((_ () r) (w1 r)) ((_ (x . y) r) (w y (r (... ...))))))", 0,
            "#<unspecified>");
        h.due("(define-syntax w1 (syntax-rules () ((_ r) (define-syntax m (syntax-rules () ((_ r) '(r r)))))))", 0,
            "#<unspecified>");
        h.due("(define-syntax u (syntax-rules () ((_ () r) (m r)) ((_ (x . y) r) (u y (r)))))", 0, "#<unspecified>");
        rows(203, 97, true);
        rows(204, 97, false);
        rows(207, 95, true);
        rows(208, 95, false);
        rows(326, 60, true);
        rows(327, 60, false);
    }

    /** So many names within so many lists with ELLIPSES: names and ELLIPSES times names and ELLIPSES things. */
    private void rows(int names, int ellipses, boolean fit) {
        String deep = "(" + "1 ".repeat(ellipses) + ")";
        h.due("(w " + deep + " (" + symbols(names) + "))", 0, "#<unspecified>");
        h.feed("(u " + deep + " (" + "1 ".repeat(names) + "))");
        h.due("names " + names + ", ELLIPSES " + ellipses, h.get().evaluate(), fit ? 0 : 1);
        if (fit) h.due("RESULT's size", h.get().count(1), 2 * (2 * ellipses + 2 * names + 1) + 3);
    }

    private void longMatches() {
        h.fresh();
        h.due("(define-syntax m (syntax-rules () ((_ " + ONES + " 2) 'two) ((_ . r) 'other)))", 0, "#<unspecified>");
        h.due("(m " + ONES + " 2)", 0, "two");
        h.due("(m " + ONES + " 1)", 0, "other");
        String few = ONES.substring(0, 2005 + 300);
        h.due("(define-syntax m (syntax-rules () ((_ (" + few + ") ...) 'all) ((_ . r) 'other)))", 0,
            "#<unspecified>");
        h.due("(m #1=(" + few + ")" + "#1#".repeat(40) + ")", 0, "all");
        h.due("(m #1=(" + few + ")" + "#1#".repeat(40) + "())", 0, "other");
        h.due("(m (#0=#(" + "1 ".repeat(999) + "1)" + "#0#".repeat(99) + "#(1)))", 0, "other");
        h.due("(define-syntax m (syntax-rules () ((_ #(1 2 3 4 x)) 'x) ((_ #(1 2 \"s\" 4 ... 5)) 'string)"
            + " ((_ #(1 2 x ... 5 6)) '(x ...)) ((_ . r) 'other)))", 0, "#<unspecified>");
        h.due("(m #(1 2 3 4 5))", 0, "5");
        h.due("(m #(1 2 3 4))", 0, "other");
        h.due("(m #(1 2 \"s\" 5))", 0, "string");
        h.due("(m #(1 2 \"s\" 4 4 4 5))", 0, "string");
        h.due("(m #(1 2 \"t\" 4 4 5 6))", 0, "(\"t\" 4 4)");
        h.due("(m #(1 2 5 6))", 0, "()");
        h.due("(m #(1 2 5 6 6))", 0, "other");
    }

    private void longTemplates() {
        h.fresh();
        h.due("(define-syntax m (syntax-rules () ((_ (x ...) ...) '(" + "x ... ... ".repeat(500) + "))))", 0,
            "#<unspecified>");
        h.due("(m () ())", 0, "()", "", 10);
        h.due("(m " + "()".repeat(2900) + ")", 0, "()");
        h.due("(m (1)" + "()".repeat(2900) + ")", 0, "(" + "1 ".repeat(499) + "1)");
        h.due("(define-syntax m (syntax-rules () ((_ (x ...) ...) '(((" + ONES + " x) ...) ...))))", 0,
            "#<unspecified>");
        h.due("(define-syntax n (syntax-rules () ((_ (x ...) ...) '((" + ONES + " x) ... ...))))", 0,
            "#<unspecified>");
        h.due("(m () ())", 0, "(() ())");
        h.due("(n " + "()".repeat(2900) + ")", 0, "()");
        h.due("(n () (1) ())", 2, "");
    }

    private void longLooks() {
        h.fresh();
        h.due("(define-syntax m (syntax-rules () ((_ " + ONES + " a a) 1)))", 2, "");
        h.due("(define-syntax m (syntax-rules () ((_ (" + ONES + " x) ...) '(x ...))))", 0, "#<unspecified>");
        h.due("(m)", 0, "()");
        h.due("(define-syntax m (syntax-rules () ((_ a ...) '(" + ONES + " a))))", 2, "");
        h.due("(define-syntax m (syntax-rules () ((_ a b ...) '((" + ONES + " a) ...))))", 2, "");
        h.due("(define-syntax m (syntax-rules () ((_ x ...) '((" + ONES + " x) ...))))", 0, "#<unspecified>");
        h.due("(m)", 0, "()");
    }

    /** Forms that are "syntax" behind thousands of parts that were never come to: nothing of them stays. */
    private void expandedInVain() {
        String[] heads = {"(", "(begin ", "(if 1 ", "(lambda () ", "(set! x "};
        String[] shells = {"", "(lambda () ", "", "", ""};
        for (int i = 0; i < heads.length; i++) {
            h.fresh();
            h.due("(define-syntax r (syntax-rules () ((_ k) (k " + "x ".repeat(2900) + "))))", 0, "#<unspecified>");
            h.due("(define-syntax m (syntax-rules () ((_ . r) " + shells[i] + heads[i].repeat(55) + "(if)"
                + " . r)".repeat(55) + (shells[i].isEmpty() ? "" : ")") + ")))", 0, "#<unspecified>");
            for (int n = 0; n < 14; n++) {
                h.due("(r m)", 1, "#<error syntax>");
                h.due("(+ 1 " + n + ")", 0, Integer.toString(n + 1));
            }
        }
    }

    /** Libraries that are told again and again, each with 1000 exports or hundreds of begins. */
    private void manyLibraries() {
        h.fresh();
        h.due("(define-syntax l (syntax-rules () ((_ . r) (begin "
            + "(define-library (l) (export . r) (begin 1))".repeat(60) + "))))", 0, "#<unspecified>");
        h.due("(define-syntax s (syntax-rules () ((_ k) (k " + symbols(1000) + "))))", 0, "#<unspecified>");
        h.due("(define-syntax b (syntax-rules () ((_ . r) (begin " + "(define-library (l) . r)".repeat(100) + "))))",
            0, "#<unspecified>");
        for (int n = 0; n < 12; n++) {
            h.due("(s l)", 0, "#<unspecified>");
            h.due("(import (only (l) ab cd))", 0, "#<unspecified>");
            h.due("(b " + "(begin)".repeat(20) + ")", 0, "#<unspecified>");
            h.due("libraries", h.get().count(7), 1);
        }
        h.due("(import (l))", 0, "#<unspecified>", "", 4);
        h.due("(s l)", 0, "#<unspecified>");
        h.due("(define-syntax p (syntax-rules () ((_ x ...) (import (rename (l) (x zz) ...)))))", 0,
            "#<unspecified>");
        h.due("(s p)", 1, "#<error syntax>");
        h.due("(define-syntax p (syntax-rules () ((_ x ...) (import (except (l) x ...)))))", 0, "#<unspecified>");
        h.due("(s p)", 0, "#<unspecified>");
        h.due("(define-library (t) (export a (rename b a)))", 1, "#<error syntax>");
        h.due("(define-library (t) (export a) (export (rename b c) b) (import (only (scheme base) define))"
            + " (begin (define a 1)) (begin) (begin (define b 2)))", 0, "#<unspecified>");
        h.due("(import (t))(define-syntax list (syntax-rules () ((_ . x) 'x)))(- a b c)", 0, "-3");
    }

    private void operands() {
        h.fresh();
        h.due("(append)", 1, "#<error arity>", "", 29);
        h.due("(append 5)", 0, "5");
        h.due("(append '() '() 5)", 0, "5");
        h.due("(append '(1) 2 3)", 1, "#<error type>");
    }

    /** Behind #\ a line's end (9, 13) is a DELIMITER: the TOKEN ends there. */
    private void lineEnds() {
        h.fresh();
        for (char end : new char[] {9, 10, 13}) {
            h.due("#\\" + end, -1, "");
            h.due("(#\\" + end + (char) 200, -2, "");
            h.due("#u8(1 #\\" + end + (char) 200, -7, "");
            h.due("#\\a" + end + (char) 200, -5, "");
        }
        h.due("#\\" + (char) 200, -3, "");
        h.due("#u8(#\\" + (char) 200, -7, "");
        h.due("#u8(#\\ " + (char) 200, -8, "");
        h.due("#u8(#\\", -7, "");
    }
}
