import java.math.BigInteger;
import java.util.Random;

/** gcd, lcm and fractions of big numbers, against BigInteger: quotients of all sizes, and numbers that are hard for Euclid. */
final class GcdTest {
    private final House h = new House();
    private final Random random = new Random(19);

    public static void main(String[] args) {
        GcdTest test = new GcdTest();
        test.numbersOfAllSizes();
        test.commonFactors();
        test.neighbours();
        test.fibonacci();
        test.greatQuotients();
        test.fractions();
        test.small();
        House.finish();
    }

    private BigInteger number(int bits) {
        return new BigInteger(bits, random);
    }

    private int size(int most) {
        return random.nextInt(most) + 1;
    }

    private static String text(BigInteger n) {
        return "#x" + n.toString(16);
    }

    private void due(BigInteger a, BigInteger b) {
        if (h.get().count(2) > 30000) h.fresh();
        String both = "(gcd " + text(a) + " " + text(b) + ")";
        h.due("(number->string " + both + " 16)", 0, "\"" + a.gcd(b).toString(16) + "\"");
    }

    /** Both ways round, and with signs. */
    private void dueAll(BigInteger a, BigInteger b) {
        due(a, b);
        due(b.negate(), a);
    }

    private void numbersOfAllSizes() {
        for (int n = 0; n < 400; n++) dueAll(number(size(4000)), number(size(4000)));
        for (int n = 0; n < 400; n++) dueAll(number(size(130)), number(size(130)));
    }

    private void commonFactors() {
        for (int n = 0; n < 200; n++) {
            BigInteger factor = number(size(2000));
            dueAll(number(size(2000)).multiply(factor), number(size(2000)).multiply(factor));
        }
        for (int n = 0; n < 100; n++) {
            BigInteger a = number(size(1900)).add(BigInteger.ONE);
            BigInteger b = number(size(1900)).add(BigInteger.ONE);
            if (h.get().count(2) > 30000) h.fresh();
            String lcm = a.divide(a.gcd(b)).multiply(b).toString(16);
            h.due("(number->string (lcm " + text(a) + " " + text(b) + ") 16)", 0, "\"" + lcm + "\"");
        }
        for (int n = 0; n < 100; n++) {
            BigInteger factor = number(size(1900));
            int shift = size(30) * (n % 2 == 0 ? 30 : 1);
            dueAll(factor.shiftLeft(shift), factor.multiply(number(size(60))));
        }
    }

    private void neighbours() {
        for (int bits = 1; bits <= 3990; bits += bits < 200 ? 1 : 61) {
            BigInteger power = BigInteger.ONE.shiftLeft(bits);
            BigInteger one = BigInteger.ONE;
            dueAll(power, power.subtract(one));
            dueAll(power.add(one), power.subtract(one));
            BigInteger some = number(bits);
            dueAll(some, some.add(number(size(40))));
            dueAll(some, some);
        }
    }

    /** All quotients are 1; and some that are 1 but for a few. */
    private void fibonacci() {
        BigInteger a = BigInteger.ONE;
        BigInteger b = BigInteger.ONE;
        for (int n = 0; n < 5600; n++) {
            BigInteger next = a.add(b);
            if (n % 97 == 13) next = next.add(b.multiply(BigInteger.valueOf(size(1 << 30))));
            a = b;
            b = next;
            if (b.bitLength() > 4000) break;
            if (n % 41 == 0) dueAll(b, a);
            if (n % 311 == 0) dueAll(b, a.add(BigInteger.ONE));
        }
    }

    /** Numbers made from the quotients that Euclid finds again: some of them at the edges of 30 and 60 bits. */
    private void greatQuotients() {
        int[] sizes = {1, 2, 28, 29, 30, 31, 32, 59, 60, 61, 62, 90, 91, 300};
        for (int n = 0; n < 300; n++) {
            BigInteger a = number(size(60)).add(BigInteger.ONE);
            BigInteger b = BigInteger.ZERO;
            for (int i = 0; i < 200; i++) {
                int bits = sizes[random.nextInt(sizes.length)];
                BigInteger quotient = BigInteger.ONE.shiftLeft(bits);
                if (i % 3 == 0) quotient = quotient.subtract(BigInteger.ONE);
                if (i % 3 == 1) quotient = number(bits).add(BigInteger.ONE);
                BigInteger next = a.multiply(quotient).add(b);
                if (next.bitLength() > 4000) break;
                b = a;
                a = next;
            }
            dueAll(a, b);
        }
    }

    private void fractions() {
        for (int n = 0; n < 200; n++) {
            BigInteger a = number(size(1500));
            BigInteger b = number(size(1500)).add(BigInteger.ONE);
            BigInteger c = number(size(1500));
            BigInteger d = number(size(1500)).add(BigInteger.ONE);
            BigInteger top = a.multiply(d).add(c.multiply(b));
            BigInteger bottom = b.multiply(d);
            BigInteger common = top.gcd(bottom);
            String due = top.divide(common).toString(16);
            if (!bottom.equals(common)) due += "/" + bottom.divide(common).toString(16);
            if (h.get().count(2) > 30000) h.fresh();
            String sum = "(+ (/ " + text(a) + " " + text(b) + ") (/ " + text(c) + " " + text(d) + "))";
            h.due("(number->string " + sum + " 16)", 0, "\"" + due + "\"");
        }
    }

    private void small() {
        for (int a = 0; a < 40; a++) {
            for (int b = 0; b < 40; b++) {
                h.due("(list (gcd " + a + " " + b + ") (gcd -" + a + " " + b + ".0))", 0,
                    "(" + BigInteger.valueOf(a).gcd(BigInteger.valueOf(b)) + " "
                    + BigInteger.valueOf(a).gcd(BigInteger.valueOf(b)) + ".0)");
            }
        }
    }
}
