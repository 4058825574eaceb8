/** The edges that "TEXTS" and "READING" name: the last case that is still allowed, and the first that is not. */
final class EdgesOfTextsTest {
    private final House h = new House();

    public static void main(String[] args) {
        EdgesOfTextsTest test = new EdgesOfTextsTest();
        test.emptied();
        test.wrongEverywhere();
        test.firstFault();
        test.blanks();
        test.blockComments();
        test.skippedData();
        test.delimiters();
        test.points();
        test.sixtyWithinOneAnother();
        test.sixtyOfSkipped();
        test.labels();
        test.labelsOfOutermostData();
        test.labelsAskedForTooSoon();
        test.labelsOfListsAndVectors();
        test.bytevectors();
        test.booleans();
        test.symbols();
        test.barredSymbols();
        test.characters();
        test.strings();
        test.continuedStrings();
        test.numberParts();
        test.numberPrefixes();
        test.numberExponents();
        test.numberSpecials();
        test.numberOfManySigns();
        test.numberOfManyBits();
        test.lookedAtToTheEnd();
        test.cutAnywhere();
        test.readOfTheInput();
        House.finish();
    }

    /** The DATUM as it is read, quoted ahead and written again. */
    private void reads(String text, String written) {
        h.due("'" + text, 0, written);
    }

    /** The text is WRONG at the place, with nothing evaluated and no WORK. */
    private void wrong(String text, int place) {
        h.due(text, -1 - place, "", "", 0);
        h.due("forms done", h.get().count(8), 0);
    }

    /** So is it behind a quote sign: for texts that would be conditions as forms. */
    private void wrongQuoted(String text, int place) {
        wrong("'" + text, place + 1);
    }

    private static String hex(int digits) {
        return "f".repeat(digits);
    }

    // "A TEXT is the whole tape; the call that reads it empties it, whatever it answers."
    private void emptied() {
        h.fresh();
        String[] texts = {"1", "(car 1)", "(let loop () (loop))", "(", ")"};
        int[] ends = {0, 1, 2, -2, -1};
        for (int i = 0; i < texts.length; i++) {
            h.feed(texts[i]);
            h.due("the tape of " + texts[i], h.get().count(5), texts[i].length());
            h.due("evaluate()", h.get().evaluate(), ends[i]);
            h.due("the tape is empty behind " + texts[i], h.get().count(5), 0);
            h.due("the empty tape evaluated", h.get().evaluate(), 0);
            h.due("RESULT", h.told(1), "");
        }
        h.feed("(\u00ff");
        h.due("input()", h.get().input(), 2);
        h.due("the tape is empty behind input()", h.get().count(5), 0);
        h.due("input() of the empty tape", h.get().input(), 0);
    }

    // "Bytes that are neither 9, 10, 13 nor 32 .. 126 are WRONG everywhere."
    private void wrongEverywhere() {
        h.fresh();
        String[] ahead = {"", "'(a", "(a ", "; ", "#| ", "\"a", "\"\\", "\"\\x4", "|a", "|\\", "#\\", "#\\a", "#t", "12",
            "#u8(1", "#u8(1 ", "#;", "#; a", "'a .", "#0=", "#", "(1 . ", "(1 . 2 ", "\"\\ ", "\"\\\n ", "#x"};
        for (int b = 0; b < 256; b++) {
            if (b == 9 || b == 10 || b == 13 || b >= 32 && b <= 126) continue;
            for (String text : ahead) wrong(text + (char) b + " |# \" | ) 1", text.length());
        }
        for (int b : new int[] {9, 10, 13, 32}) h.due("" + (char) b + "7" + (char) b, 0, "7");
        h.due("; ~ \n\"~\"", 0, "\"~\"");
    }

    // "that of the first byte of the first TOKEN that is none or can't stand, or the text's length if something is
    // missing at its end"
    private void firstFault() {
        h.fresh();
        wrong(")", 0);
        wrong("1 2)", 3);
        wrong("(1 #q 1+ )", 3);
        wrong("(", 1);
        wrong("(1 2 ", 5);
        wrong("(1 . 2", 6);
        wrong("(1 .", 4);
        wrong("#(", 2);
        wrong("#u8(", 4);
        wrong("'", 1);
        wrong("`", 1);
        wrong(",", 1);
        wrong(",@", 2);
        wrong("#0=", 3);
        wrong("#;", 2);
        wrong("\"", 1);
        wrong("|", 1);
        wrong("#|", 2);
        wrong("#\\", 2);
        wrong("'(a . b) #", 9);
        wrong(" ".repeat(5999) + ")", 5999);
        wrong(" ".repeat(5999) + "(", 6000);
    }

    // "BLANKS are 9, 10, 13, 32; ; and what is behind it up to 10 or the end"
    private void blanks() {
        h.fresh();
        h.due("", 0, "");
        h.due(" \t\r\n", 0, "");
        h.due(";", 0, "");
        h.due("1;", 0, "1");
        h.due("1;)\"|", 0, "1");
        h.due("1;)\r)\n", 0, "1");
        h.due(";\n2", 0, "2");
        h.due("1;\n;\n\n2", 0, "2");
    }

    // "#| and what is up to its |# (these may be within one another)"
    private void blockComments() {
        h.fresh();
        h.due("#||#", 0, "");
        h.due("#|||#1", 0, "1");
        h.due("#|a #|b|# c|#2", 0, "2");
        h.due("#|#||#|#3", 0, "3");
        h.due("#|\n;|#4", 0, "4");
        h.due("'(a #|b|#c)", 0, "(a c)");
        wrong("'(a#|b|#c)", 2);
        wrong("#|#", 3);
        wrong("#|#|", 4);
        wrong("#|#||#", 6);
        wrong("#|a|", 4);
        wrong("#| #| |#", 8);
        wrong("#| |#)", 5);
    }

    // "#; and the DATUM behind it"; "where its DATUM is missing: WRONG at the ) that stands there, or the length"
    private void skippedData() {
        h.fresh();
        h.due("#;1", 0, "");
        h.due("#;1 2", 0, "2");
        h.due("#; 1 2", 0, "2");
        h.due("#;(a . b)2", 0, "2");
        h.due("#;#;1 2 3", 0, "3");
        h.due("#;#;1 #;2 3 4", 0, "4");
        h.due("'#;a b", 0, "b");
        h.due("'(a #;b)", 0, "(a)");
        h.due("'(a . #;b c)", 0, "(a . c)");
        h.due("'(a . b #;c)", 0, "(a . b)");
        h.due("'#(a #;b)", 0, "#(a)");
        h.due("#u8(1 #;(a \"b\" #\\)) 2)", 0, "#u8(1 2)");
        wrong("#;", 2);
        wrong("#; ;", 4);
        wrong("1 #;", 4);
        wrong("#;#;1", 5);
        wrong("(#;)", 3);
        wrong("(a #; )", 6);
        wrong("(a . #;b)", 8);
        wrong("(#; . a)", 4);
        wrong("'(a . b #;)", 10);
    }

    // "DELIMITERS: BLANKS' bytes, ( ) " ; ' ` , | and the end"
    private void delimiters() {
        h.fresh();
        h.due("'(a(b)c)", 0, "(a (b) c)");
        h.due("'(a\"b\"c)", 0, "(a \"b\" c)");
        h.due("'(a;b\nc)", 0, "(a c)");
        h.due("'(a'b)", 0, "(a (quote b))");
        h.due("'(a`b)", 0, "(a (quasiquote b))");
        h.due("'(a,b)", 0, "(a (unquote b))");
        h.due("'(a,@b)", 0, "(a (unquote-splicing b))");
        h.due("'(a|b|c)", 0, "(a b c)");
        h.due("'(1'2\t3\r4\n5)", 0, "(1 (quote 2) 3 4 5)");
        h.due("'(#t(#f))", 0, "(#t (#f))");
        h.due("'(#\\a(#\\((#\\))))", 0, "(#\\a (#\\( (#\\))))");
        wrongQuoted("a#(b", 0);
        wrongQuoted("a{", 0);
        wrongQuoted("[a", 0);
        wrongQuoted("a\\", 0);
        wrongQuoted("a#b", 0);
    }

    // "( DATA . DATUM ) with one DATUM at least ahead of the ."; "A . that can't stand, a ) behind it or a second DATUM
    // behind it are WRONG at their first byte."
    private void points() {
        h.fresh();
        reads("(a . b)", "(a . b)");
        reads("(a b . c)", "(a b . c)");
        reads("(a . (b))", "(a b)");
        reads("(a . ())", "(a)");
        reads("(a.b)", "(a.b)");
        reads("(a .5)", "(a 0.5)");
        reads("(a .b)", "(a .b)");
        reads("(a . |.|)", "(a . |.|)");
        wrong(".", 0);
        wrong("1 .", 2);
        wrong("( . a)", 2);
        wrong("(. a)", 1);
        wrong("(.)", 1);
        wrong("(#;x . a)", 5);
        wrong("(a . )", 5);
        wrong("(a .)", 4);
        wrong("(a . b c)", 7);
        wrong("(a . b . c)", 7);
        wrong("(a . b (c))", 7);
        wrong("(a . b \"c)", 7);
        wrong("(a . b |c)", 7);
        wrong("(a . b 'c)", 7);
        wrong("(a . b #0=c)", 7);
        wrong("(a . b #\\c)", 7);
        wrong("(a . b #u8(", 7);
        wrong("(a . . b)", 5);
        wrong("#0=(#;#0# . a)", 10);
        wrong("#0=(#;#0# ", 10);
        wrong("(a . #0=)", 8);
        wrong("'.", 1);
        wrong("#0=.", 3);
        wrong("#;.", 2);
        wrong("#(a . b)", 4);
        wrong("#(.)", 2);
        wrong("#u8(1 . 2)", 6);
    }

    // "Brackets, #n= and ' ` , ,@ are at most 60 within one another (the 61st is WRONG)."
    private void sixtyWithinOneAnother() {
        h.fresh();
        String[] opens = {"(", "#(", "'", "`", ",", ",@", "(a . ", "#(b "};
        String[] closes = {")", ")", "", "", "", "", ")", ")"};
        for (int i = 0; i < opens.length; i++) {
            String text = "'" + opens[i].repeat(59) + "1" + closes[i].repeat(59);
            h.feed(text);
            h.due("60 of " + opens[i], h.get().evaluate(), 0);
            wrong(opens[i].repeat(60) + opens[i] + "1", 60 * opens[i].length());
            for (String last : new String[] {"(", "#(", "#u8(", "'", "`", ",", ",@", "#7="}) {
                String deep = "'" + opens[i].repeat(58);
                String end = last.endsWith("(") ? ")" : "1";
                h.feed(deep + last + end + closes[i].repeat(58));
                h.due("60 with " + last, h.get().evaluate(), 0);
                deep = "'" + opens[i].repeat(59);
                wrong(deep + last + end + closes[i].repeat(59), deep.length());
            }
        }
        StringBuilder labels = new StringBuilder();
        for (int i = 0; i < 60; i++) labels.append('#').append(i).append('=');
        h.due(labels + "1", 0, "1");
        wrong(labels + "#60=1", labels.length());
        h.due("'(" + "() ".repeat(100) + ")", 0, "(" + "() ".repeat(99) + "())");
        h.due("'" + "(".repeat(59) + "#\\( \"(\"" + ")".repeat(59), 0, "(".repeat(59) + "#\\( \"(\"" + ")".repeat(59));
    }

    /** #; itself is none of the 60, what it skips is within what stands around it. */
    private void sixtyOfSkipped() {
        h.fresh();
        h.due("#;".repeat(100) + "1 ".repeat(100) + "7", 0, "7");
        h.due("#;" + "(".repeat(60) + ")".repeat(60) + "7", 0, "7");
        wrong("#;" + "(".repeat(61), 62);
        h.due("(#;" + "(".repeat(59) + ")".repeat(59) + " + 7)", 0, "7");
        wrong("(#;" + "(".repeat(60), 62);
        h.due("#;".repeat(2990) + "(" + ")", -1 - 5982, "");
    }

    // "#n= DATUM and #n# (n 0 .. 99 ..)"; "A LABEL has one or two digits"; "#n= and #n# end with = and #"
    private void labels() {
        h.fresh();
        reads("(#0=a #0#)", "(a a)");
        reads("(#9=a #9#)", "(a a)");
        reads("(#10=a #10#)", "(a a)");
        reads("(#99=a #99#)", "(a a)");
        reads("(#7=a #07#)", "(a a)");
        wrongQuoted("#100=a", 0);
        wrongQuoted("(#00=a #000#)", 7);
        wrongQuoted("#=a", 0);
        wrongQuoted("##", 0);
        wrongQuoted("#-1=a", 0);
        wrongQuoted("#a=1", 0);
        wrongQuoted("#1", 0);
        wrongQuoted("#1 =", 0);
        wrongQuoted("(#0=a #0)", 6);
        wrongQuoted("(#0=1#0#2)", 4);
        reads("(#0=(1)#0#2)", "((1) (1) 2)");
        reads("(#1=#2=a #1# #2#)", "(a a a)");
    }

    // "one LABEL once in an outermost DATUM, not asked for ahead of it, nor alone behind its own ="; "outside of
    // brackets, quote signs and #n= each is an outermost DATUM of its own, also one that another #; .. is ahead of"
    private void labelsOfOutermostData() {
        h.fresh();
        h.due("#0=1 #0=2", 0, "2");
        h.due("#0=1 #;#0=2 #0=3", 0, "3");
        h.due("#;#0=1 #;#0=2 #0=3", 0, "3");
        h.due("#;#;#0=1 #0=2 #0=3", 0, "3");
        wrongQuoted("(#0=a #0=b)", 6);
        wrongQuoted("(#0=a (#0=b))", 7);
        wrongQuoted("#0=#0=a", 3);
        wrongQuoted("(#0=a #00=b)", 6);
        wrong("#0=1 #0#", 5);
        wrong("#;#0=1 #0#", 7);
        wrong("#0=1 #;#0#", 7);
        wrong("#;#;#0=1 #0# 2", 9);
        wrong("(#;#0=a #0=b)", 8);
        h.due("'(#;#0=a #0#)", 0, "(a)");
        wrong("'#;#0=a #0=b", 8);
        h.due("'#;#0=a (#0#)", 0, "(a)");
        wrong("#0=#;#1=a #1=b", 10);
        h.due("'#0=#;#1=a (#1#)", 0, "(a)");
        h.due("#;'#0=a '#0=b", 0, "b");
    }

    // "between = and its object (another LABEL's = in between, too) a LABEL is told, but can't be asked for"
    private void labelsAskedForTooSoon() {
        h.fresh();
        wrongQuoted("(#0# #0=a)", 1);
        wrongQuoted("#0#", 0);
        wrongQuoted("#0=#0#", 3);
        wrongQuoted("#0=#1=#0#", 6);
        wrongQuoted("#0=#1=#1#", 6);
        wrongQuoted("#0=#;#0# a", 5);
        wrongQuoted("#0=#;(#0#) a", 6);
        wrongQuoted("#0=#;#1=#0# a", 8);
        wrongQuoted("#0=#;#0=b a", 5);
        wrongQuoted("(#0=)", 4);
        wrongQuoted("(#0= )", 5);
        wrongQuoted("#0=", 3);
        wrongQuoted("#0=#1=", 6);
        wrongQuoted("(#0=#;)", 6);
    }

    // "it names the object behind it, a list, VECTOR made ahead of what is in it"
    private void labelsOfListsAndVectors() {
        h.fresh();
        h.input("#0=(a . #0#) #0=#(a #0#) #0='#0# #0=(#0# #0#) #0=() #0=(#;#0#) #0=#() #0=(b (c #0#) . #0#)"
            + " #0=#1=(#1# #0#)");
        h.due("(read)", 0, "#0=(a . #0#)");
        h.due("(read)", 0, "#0=#(a #0#)");
        h.due("(read)", 0, "#0=(quote #0#)");
        h.due("(read)", 0, "#0=(#0# #0#)");
        h.due("(read)", 0, "()");
        h.due("(read)", 0, "()");
        h.due("(read)", 0, "#()");
        h.due("(read)", 0, "#0=(b (c #0#) . #0#)");
        h.due("(read)", 0, "#0=(#0# #0#)");
        h.input("(#0=\"s\" #0#) (#0=#u8(1) #0#) (#0=1.5 #0#)");
        h.due("(apply eq? (read))", 0, "#t");
        h.due("(apply eq? (read))", 0, "#t");
        h.due("(apply eq? (read))", 0, "#t");
    }

    // "#u8( exact integers 0 .. 255 )"; "In #u8( ) nothing but BLANKS of all sorts and NUMBERS may stand (an element in
    // any writing; else WRONG at it)."
    private void bytevectors() {
        h.fresh();
        h.due("#u8()", 0, "#u8()");
        h.due("#u8(0 255 #xFf #e1.5e1 6/3 +7 -0 #b1 007 #e2e0)", 0, "#u8(0 255 255 15 2 7 0 1 7 2)");
        h.due("#u8(1;2\n#|3|# #;4 5\t\r6)", 0, "#u8(1 5 6)");
        wrong("#u8(256)", 4);
        wrong("#u8(-1)", 4);
        wrong("#u8(1 1.0)", 6);
        wrong("#u8(1/2)", 4);
        wrong("#u8(#i1)", 4);
        wrong("#u8(99999999999999999999)", 4);
        wrong("#u8(a)", 4);
        wrong("#u8(#t)", 4);
        wrong("#u8(1 #\\a)", 6);
        wrong("#u8(#\\))", 4);
        wrong("#u8(())", 4);
        wrong("#u8(#(1))", 4);
        wrong("#u8(\"1\")", 4);
        wrong("#u8('1)", 4);
        wrong("#u8(`1)", 4);
        wrong("#u8(,1)", 4);
        wrong("#u8(|1|)", 4);
        wrong("#u8(#0=1)", 4);
        wrong("#u8(#u8(1))", 4);
        wrong("#u8(1", 5);
        wrong("#U8(1)", 0);
        wrong("#u8 (1)", 0);
        wrong("#u(1)", 0);
    }

    // "BOOLEANS #t #f #true #false"; "#t, #x and so on have small letters"
    private void booleans() {
        h.fresh();
        h.due("'(#t #f #true #false)", 0, "(#t #f #t #f)");
        for (String none : new String[] {"#T", "#F", "#True", "#FALSE", "#tr", "#truex", "#fals", "#", "#tf"}) {
            wrong(none, 0);
        }
        for (String none : new String[] {"#X1", "#O1", "#B1", "#D1", "#E1", "#I1", "#\\Space", "#\\NULL", "#\\X41"}) {
            wrong(none, 0);
        }
    }

    // "SYMBOLS: letters, digits, ! $ % & * + - . / : < = > ? @ ^ _ ~ , that don't begin with a digit and are no NUMBER
    // nor . alone, at most 40 signs; others are WRONG"
    private void symbols() {
        h.fresh();
        String all = "!$%&*+-./:<=>?@^_~";
        for (int i = 0; i < all.length(); i++) {
            String one = all.substring(i, i + 1);
            if (!one.equals(".")) reads(one, one);
            reads(one + "a1", one + "a1");
            reads("a" + one, "a" + one);
        }
        for (String good : new String[] {"+", "-", "...", "..", ".a", "+.", "-.e1", "+1/0", "+a1",
            "+1e1000", "-i", "+inf", "+inf.00", "+Inf.0", "+NAN.0", "inf.0", "nan.0", "a.5", "-1-", "+1e"}) {
            reads(good, good);
        }
        for (String bad : new String[] {"1a", "1+", "0x", "9_", "1/0", "1e", "1e+", "1/", "1/2/3", "1.2.3", "1e1000", "a#",
            "a\\b", "a{b", "[", "]", "{", "}", "1i"}) {
            wrongQuoted(bad, 0);
        }
        reads("a".repeat(40), "a".repeat(40));
        wrongQuoted("a".repeat(41), 0);
        reads("+" + "1".repeat(38) + "a", "+" + "1".repeat(38) + "a");
        wrongQuoted("+" + "1".repeat(39) + "a", 0);
        wrong("(b " + "a".repeat(41) + ")", 3);
    }

    // "| and signs up to the next | is a SYMBOL too (escapes as in STRINGS; at most 40)"
    private void barredSymbols() {
        h.fresh();
        reads("||", "||");
        reads("|a b|", "|a b|");
        reads("|ab|", "ab");
        reads("|1|", "|1|");
        reads("|.|", "|.|");
        reads("|a\\|b\\x41;\\t\\\n c|", "|a\\|bA\\tc|");
        reads("|" + " ".repeat(40) + "|", "|" + " ".repeat(40) + "|");
        wrongQuoted("|" + " ".repeat(41) + "|", 0);
        reads("|" + "\\x41;".repeat(40) + "|", "A".repeat(40));
        wrongQuoted("|" + "\\x41;".repeat(41) + "|", 0);
        reads("|" + "\\\n".repeat(41) + "a|", "a");
        wrongQuoted("|" + "a".repeat(41), 42);
        wrongQuoted("|" + "a".repeat(50) + "\\q|", 0);
        wrongQuoted("|" + "a".repeat(50) + "\u007f|", 51);
        wrongQuoted("|\\q" + (char) 200 + "|", 0);
        wrongQuoted("|a", 2);
    }

    // "CHARACTERS are 0 .. 127: #\ and one sign (any of 32 .. 126), or as many as there are behind that first one up to
    // a DELIMITER: .., or x and one or two hexadecimal digits (at most 7f)"
    private void characters() {
        h.fresh();
        for (char c = 33; c < 127; c++) h.due("#\\" + c, 0, "#\\" + c);
        h.due("#\\ ", 0, "#\\space");
        h.due("(list #\\ )", 0, "(#\\space)");
        h.due("'(#\\((#\\) #\\;))", 0, "(#\\( (#\\) #\\;))");
        wrong("#\\ a", 0);
        wrong("(1 #\\ a)", 3);
        wrong("#\\ #", 0);
        wrong("#\\(a", 0);
        wrong("#\\ab", 0);
        wrong("#\\", 2);
        wrong("(#\\", 3);
        wrong("#u8(#\\", 6);
        wrong("#\\\n", 0);
        wrong("#\\\t1", 0);
        String[] names = {"alarm", "backspace", "delete", "escape", "newline", "null", "return", "space", "tab"};
        int[] codes = {7, 8, 127, 27, 10, 0, 13, 32, 9};
        for (int i = 0; i < names.length; i++) {
            h.due("(char->integer #\\" + names[i] + ")", 0, Integer.toString(codes[i]));
            wrong("#\\" + names[i] + "s", 0);
            wrong("#\\" + names[i].substring(0, names[i].length() - 1), 0);
        }
        h.due("(map char->integer '(#\\x #\\x0 #\\x00 #\\x7f #\\x7F #\\x4a #\\xA))", 0, "(120 0 0 127 127 74 10)");
        wrong("#\\x80", 0);
        wrong("#\\xff", 0);
        wrong("#\\x000", 0);
        wrong("#\\x041", 0);
        wrong("#\\xg", 0);
        wrong("#\\x1g", 0);
        wrong("#\\x-1", 0);
    }

    // STRINGS: "\xH; (one or two digits, at most 7f) .. another \ makes the STRING WRONG (at its first byte, as
    // everything in it; one without an end at the text's length)"; "In a STRING, | | the first fault from the left
    // counts: a byte that is WRONG everywhere at itself, another one at the first byte."
    private void strings() {
        h.fresh();
        h.due("\"\"", 0, "\"\"");
        h.due("(map char->integer (string->list \"\\a\\b\\t\\n\\r\\\"\\\\\\|\"))", 0, "(7 8 9 10 13 34 92 124)");
        h.due("(map char->integer (string->list \"\\x0;\\x00;\\x7f;\\x7F;\\x4a;\\x4A;\"))", 0, "(0 0 127 127 74 74)");
        h.due("(string-length \"a\tb\rc\nd\")", 0, "7");
        wrong("\"\\x80;\"", 0);
        wrong("1 \"ab\\x80;\"", 2);
        wrong("\"\\x;\"", 0);
        wrong("\"\\x000;\"", 0);
        wrong("\"\\x41\"", 0);
        wrong("\"\\xg;\"", 0);
        wrong("\"\\X41;\"", 0);
        wrong("\"\\q\"", 0);
        wrong("\"\\A\"", 0);
        wrong("\"\\'\"", 0);
        wrong("(\"\\", 3);
        wrong("(\"\\x", 4);
        wrong("(\"\\x4", 5);
        wrong("(\"ab", 4);
        wrong("(\"ab\\\"", 6);
        wrong("\"\\q\u007f\"", 0);
        wrong("\"\u007f\\q\"", 1);
        wrong("\"\\q", 0);
        wrong("\"\\x4\u007f\"", 4);
    }

    // "\ behind which only blanks (9, 32) stand up to a 10 is nothing, with these, the 10, and blanks behind it"
    private void continuedStrings() {
        h.fresh();
        h.due("\"a\\\nb\"", 0, "\"ab\"");
        h.due("\"a\\ \t \n \t b\"", 0, "\"ab\"");
        h.due("\"a \\\n\n b\"", 0, "\"a \\n b\"");
        h.due("\"a\\\n\\\nb\"", 0, "\"ab\"");
        h.due("\"\\\n\"", 0, "\"\"");
        h.due("\"a\\\n \rb\"", 0, "\"a\\rb\"");
        wrong("\"a\\ b\"", 0);
        wrong("\"a\\\r\nb\"", 0);
        wrong("\"a\\ \"", 0);
        wrong("\"a\\ ", 4);
        wrong("\"a\\\n ", 5);
    }

    // "a sign or none, and: digits; digits / digits (not 0); decimal digits with one . (one digit at least) or none"
    private void numberParts() {
        h.fresh();
        h.due("'(0 -0 +0 007 1/1 4/6 -3/9 0/5)", 0, "(0 0 0 7 1 2/3 -1/3 0)");
        h.due("'(1. .5 -.5 +1. 0.0 -0.0 00.50)", 0, "(1.0 0.5 -0.5 1.0 0.0 -0.0 0.5)");
        h.due("(list #x-1f/F #b101/10 #o17)", 0, "(-31/15 5/2 15)");
        wrong("1/0", 0);
        wrong("1/00", 0);
        wrong("#x1/0", 0);
        wrong("1/-2", 0);
        wrong("1/2.", 0);
        wrong("1.5/2", 0);
        wrong("1..", 0);
        wrong("1.5.", 0);
        wrong("#b2", 0);
        wrong("#o8", 0);
        wrong("#d1a", 0);
        wrong("#xg", 0);
        wrong("#x1.", 0);
        wrong("#b1.0", 0);
        wrong("#o1e1", 0);
        reads("--1", "--1");
        reads("+1/0", "+1/0");
        reads("-.", "-.");
    }

    // "perhaps #x #o #b #d and #e #i (one of each sort, in any order)"; "(but for #e) .. (but for #i; #i-0 is -0.0)"
    private void numberPrefixes() {
        h.fresh();
        h.due("'(#x10 #o10 #b10 #d10 #e10 #i10)", 0, "(16 8 2 10 10 10.0)");
        h.due("'(#x#e10 #e#x10 #i#b10 #b#i10 #d#e1.5 #e#d1.5)", 0, "(16 16 2.0 2.0 3/2 3/2)");
        h.due("'(#i1/2 #i-1/3 #i-0 #i0 #i-0/5 #e-0.0 #e1e3 #e-1.25e1)", 0,
            "(0.5 -0.3333333333333333 -0.0 0.0 -0.0 0 1000 -25/2)");
        for (String none : new String[] {"#x#x1", "#x#d1", "#e#e1", "#e#i1", "#x#e#x1", "#x#e#i1", "#x", "#e", "#x#e",
            "#e#", "#x+", "#x-", "#e.", "#i.", "1#x", "#-1x"}) {
            wrong(none, 0);
        }
    }

    // "and perhaps e, a sign or none, 1 to 3 digits"; "e of both kinds"; ". and e are for the radix 10 alone"
    private void numberExponents() {
        h.fresh();
        h.due("'(1e1 1E1 1e+1 1e-1 1.e1 .1e1 1e001 1e308 1e309 1e999 1e-999 -1e-999 1e-324)", 0,
            "(10.0 10.0 10.0 0.1 10.0 1.0 10.0 1e308 +inf.0 +inf.0 0.0 -0.0 0.0)");
        h.due("'(#x1e1 #x1E1 #d1e1 #e1e1 #e1e-1 #i1e1)", 0, "(481 481 10.0 10 1/10 10.0)");
        for (String none : new String[] {"1e", "1e+", "1e-", "1e0001", "1e1000", "1e-1000", "1e1.", "1e1e1", "1ee1",
            "1e1/2", "1/2e1", "#b1e1", "1e++1"}) {
            wrong(none, 0);
        }
        reads("e1", "e1");
        reads("+e1", "+e1");
        reads(".e1", ".e1");
        reads("-1e1000", "-1e1000");
    }

    // "or, with a sign, inf.0, nan.0 (letters as they are ..)"; "#e with inf.0, nan.0 is none"; "inf.0, nan.0 for each"
    private void numberSpecials() {
        h.fresh();
        h.due("'(+inf.0 -inf.0 +nan.0 -nan.0 #i+inf.0 #x-inf.0 #b+nan.0 #i#o+inf.0)", 0,
            "(+inf.0 -inf.0 +nan.0 +nan.0 +inf.0 -inf.0 +nan.0 +inf.0)");
        h.due("(map symbol? '(inf.0 nan.0 +Inf.0 +iNf.0 -NAN.0 +inf.1 +inf. +inf.0.0 +inf.0a +ing.0 +imf.0 +jnf.0 +nam.0 +nbn.0 +man.0 +inf-0))",
            0, "(#t #t #t #t #t #t #t #t #t #t #t #t #t #t #t #t)");
        for (String none : new String[] {"#e+inf.0", "#e-inf.0", "#e+nan.0", "#e#x+inf.0", "#iinf.0", "#x+Inf.0"}) {
            wrong(none, 0);
        }
    }

    // "A NUMBER's TOKEN has at most 1200 signs (a longer one is none)"
    private void numberOfManySigns() {
        h.fresh();
        h.due("(= " + "1".repeat(1200) + " 1)", 0, "#f");
        wrong("(= " + "1".repeat(1201) + " 1)", 3);
        h.due("0".repeat(1199) + "7", 0, "7");
        wrong("0".repeat(1200) + "7", 0);
        h.due("-" + "0".repeat(1198) + "7", 0, "-7");
        wrong("-" + "0".repeat(1199) + "7", 0);
        h.due("#x" + "0".repeat(1197) + "a", 0, "10");
        wrong("#x" + "0".repeat(1198) + "a", 0);
        h.due("0." + "0".repeat(1197) + "7", 0, "0.0");
        wrong("0." + "0".repeat(1198) + "7", 0);
        h.due("1" + "0".repeat(1194) + "e-999", 0, "1e195");
        wrong("1" + "0".repeat(1195) + "e-999", 0);
        h.due("0".repeat(1197) + "1/2", 0, "1/2");
        wrong("0".repeat(1198) + "1/2", 0);
        h.due("(string->number (make-string 1200 #\\0))", 0, "0");
        h.due("(string->number (make-string 1201 #\\0))", 0, "#f");
    }

    // "one whose parts as they are written (of decimals the digits without the point, with #e alone) or in lowest terms
    // have more than 4000 bits is WRONG ("limit" of string->number, "read" of read)"
    private void numberOfManyBits() {
        h.fresh();
        String most = "#x" + hex(1000);
        String more = "#x1" + "0".repeat(1000);
        h.due("(= " + most + " (- (expt 2 3999) 1 (- (expt 2 3999))))", 0, "#t");
        wrong(more, 0);
        wrong("(list #x-1" + "0".repeat(1000) + ")", 6);
        h.due("(= #x0" + hex(1000) + " " + most + ")", 0, "#t");
        wrong("#i" + more, 0);
        h.due("#i" + most, 0, "+inf.0");
        h.due("(exact? " + most + "/" + hex(190) + ")", 0, "#t");
        h.due("(< 0 #x" + hex(190) + "/" + hex(1000) + " 1)", 0, "#t");
        wrong("#x10" + "0".repeat(999) + "/10", 0);
        wrong("#x1/1" + "0".repeat(1000), 0);
        // of decimals without #e nothing is too great
        h.due("1" + "0".repeat(1190) + "e999", 0, "+inf.0");
        h.due("." + "0".repeat(1190) + "1e-999", 0, "0.0");
        // 10 to the 1204 has 4000 bits, 10 to the 1205 has more
        h.due("(exact? #e1" + "0".repeat(205) + "e999)", 0, "#t");
        wrong("#e1" + "0".repeat(206) + "e999", 0);
        h.due("(exact? #e." + "0".repeat(204) + "1e-999)", 0, "#t");
        wrong("#e." + "0".repeat(205) + "1e-999", 0);
        h.due("(exact? #e-1" + "0".repeat(205) + "e999)", 0, "#t");
        h.due("#e" + "0".repeat(500) + "e999", 0, "0");
        h.due("(guard (e (#t (list (error-object-message e) (error-object-irritants e)))) (string->number"
            + " (string-append \"#x1\" (make-string 1000 #\\0))))", 0, "(\"limit\" (string->number))");
        h.due("(exact? (string->number (string-append \"1\" (make-string 999 #\\0)) 16))", 0, "#t");
        h.input(more + " 5");
        h.due("(guard (e (#t (list (error-object-message e) (error-object-irritants e)))) (read))", 0, "(\"read\" ())");
        h.due("bytes left", h.get().count(6), 0);
        h.input(most + " 5");
        h.due("(exact? (read))", 0, "#t");
        h.due("bytes left", h.get().count(6), 2);
    }

    // "A TOKEN is looked at to its end for a byte that is WRONG everywhere, or what is missing there (CHARACTERS in #u8(
    // too; a | | that is too long) ahead of being none"
    private void lookedAtToTheEnd() {
        h.fresh();
        String bad = "" + (char) 127;
        wrong("#q" + bad, 2);
        wrong("1a" + bad, 2);
        wrong("#\\abc" + bad, 5);
        wrong("#u8(a" + bad, 5);
        wrong("#u8(#\\abc" + bad, 9);
        wrong("#u8(#\\" + bad, 6);
        wrong("#u8(#\\(" + bad, 7);
        wrong("#u8(256" + bad, 7);
        wrong("a".repeat(41) + bad, 41);
        wrong("1".repeat(1300) + bad, 1300);
        wrong("(a . b c" + bad, 7);
        wrong("#t" + bad, 2);
        wrong("#q " + bad, 0);
        wrong("#q(" + bad, 0);
        wrong("#0" + bad, 2);
    }

    /** Whatever end() takes off the tape, or an earlier text had there, is not looked at. */
    private void cutAnywhere() {
        String text = "'a `b ,c ,@d #(1 . 2) #;x #|y #|z|# |# ;w\n #u8(1 2) #\\x41 #\\( \"a\\x41;b\\\n  c\" |d e| #0=(f #0#) 1.5e10"
            + " -1/2 #e1.5 +inf.0 #t #false ... (a . b)";
        for (int n = 0; n <= text.length(); n++) {
            House fresh = new House();
            fresh.feed(text.substring(0, n));
            int ended = fresh.get().evaluate();
            h.fresh();
            h.feed(text);
            h.get().end(n);
            h.due("evaluate() of " + n + " bytes", h.get().evaluate(), ended);
            h.due("WORK of " + n + " bytes", h.get().count(2), fresh.get().count(2));
            h.feed(text);
            h.get().end(n);
            h.due("evaluate() again of " + n + " bytes", h.get().evaluate(), ended);
        }
        // what follows there would be one TOKEN with what is ahead
        String[] whole = {",@a", "#|a|#", "#;a", "#(1)", "#u8(1)", "#\\a", "#0=a", "#t", "'a", "\"a\"", "12", "#\\ab"};
        int[] bytes = {1, 1, 1, 1, 3, 2, 2, 1, 1, 2, 1, 3};
        int[] ends = {-2, -1, -1, -1, -1, -3, -1, -1, -2, -3, 0, 0};
        for (int i = 0; i < whole.length; i++) {
            h.fresh();
            h.feed(whole[i]);
            h.get().end(bytes[i]);
            h.due("evaluate() of " + bytes[i] + " bytes", h.get().evaluate(), ends[i]);
            h.feed(whole[i]);
            h.get().end(bytes[i]);
            h.due("input()", h.get().input(), bytes[i]);
            h.due("(guard (e (#t 'wrong)) (read) 'right)", 0, ends[i] == 0 ? "right" : "wrong");
        }
    }

    // "read (of the INPUT; the eof object at its end; what isn't a DATUM: "read", and the INPUT is at its end then)";
    // "INPUT's bytes above 127 are read as ?"
    private void readOfTheInput() {
        h.fresh();
        h.input("a 12\"s\"(b)'c #;d");
        String[] read = {"a", "12", "\"s\"", "(b)", "(quote c)", "#<eof>", "#<eof>"};
        int[] left = {15, 12, 9, 6, 4, 0, 0};
        for (int i = 0; i < read.length; i++) {
            h.due("(read)", 0, read[i]);
            h.due("bytes left", h.get().count(6), left[i]);
        }
        String caught = "(guard (e ((error-object? e) (cons (error-object-message e) (error-object-irritants e)))) (read))";
        String[] none = {")", "(", "#q", "1a", "\"", "(a . )", "#;", "#0#", "a" + (char) 1, "#\\", "'", "#|", "(1 . 2 3)"};
        for (String text : none) {
            h.input(text + (text.endsWith("\"") || text.endsWith("|") || text.endsWith("\\") ? "" : " "));
            h.due(caught, 0, "(\"read\")");
            h.due("bytes left of " + text, h.get().count(6), 0);
            h.due("(read)", 0, "#<eof>");
        }
        h.input("ok ) more");
        h.due("(read)", 0, "ok");
        h.due(caught, 0, "(\"read\")");
        h.due("(read)", 0, "#<eof>");
        h.input("a" + (char) 128 + (char) 255 + "b \"" + (char) 200 + "\" #\\" + (char) 129 + " " + (char) 127);
        h.due("(read)", 0, "a??b");
        h.due("(read)", 0, "\"?\"");
        h.due("(read)", 0, "#\\?");
        h.due(caught, 0, "(\"read\")");
        h.input("  ; nothing");
        h.due("(read)", 0, "#<eof>");
        h.due("bytes left", h.get().count(6), 0);
    }
}
