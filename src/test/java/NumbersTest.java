import java.util.Random;

/** The program's own acts on doubles against those of the Java library, bit for bit. */
public final class NumbersTest {
    private static int wrong = 0;

    private static void due(String what, double of, long got, long want) {
        if (got != want) {
            wrong++;
            if (wrong < 20) {
                System.out.println(what + " of " + of + " is " + got + ", due is " + want);
            }
        }
    }

    private static void look(double v) {
        due("bits", v, QuakeNet.Numbers.bitsOf(v), Double.doubleToLongBits(v));
        double u = Math.abs(v);
        due("abs", v, Double.doubleToLongBits(QuakeNet.Numbers.abs(v)), Double.doubleToLongBits(u));
        due("root", u, Double.doubleToLongBits(QuakeNet.Numbers.root(u)), Double.doubleToLongBits(Math.sqrt(u)));
        if (v < 0.0) {
            due("root", v, Double.doubleToLongBits(QuakeNet.Numbers.root(v)), 0L);
        }
        if (u > 0.0 && !Double.isInfinite(u)) {
            due("exponent", u, QuakeNet.Numbers.exponentOf(u), Math.getExponent(u));
            due("log", u, Double.doubleToLongBits(QuakeNet.Numbers.log(u)), Double.doubleToLongBits(ReferenceNet.log(u)));
        }
    }

    private static void lookAround(double v) {
        double[] all = {v, Math.nextUp(v), Math.nextDown(v), Math.nextUp(Math.nextUp(v)), Math.nextDown(Math.nextDown(v))};
        for (double w : all) {
            if (!Double.isNaN(w)) {
                look(w);
                look(-w);
            }
        }
    }

    public static void main(String[] args) {
        double[] edges = {0.0, -0.0, Double.MIN_VALUE, Double.MIN_NORMAL, Double.MAX_VALUE, 1.0, 2.0, 3.0, 4.0, 0.5, 0.25,
            Double.POSITIVE_INFINITY, Double.NEGATIVE_INFINITY};
        for (double v : edges) {
            lookAround(v);
        }
        for (int n = -1074; n <= 1023; n++) {
            lookAround(Math.scalb(1.0, n));
            lookAround(Math.scalb(1.5, n));
        }
        Random random = new Random(5);
        for (int i = 0; i < 3000000; i++) {
            double v = Double.longBitsToDouble(random.nextLong());
            if (!Double.isNaN(v)) {
                look(v);
            }
            look(1.0 + 3.0 * random.nextDouble());
        }
        for (int i = 0; i < 500000; i++) {
            // squares and their neighbours lie nearest to the borders of rounding
            double r = Math.scalb(1.0 + random.nextDouble(), in(random, -500, 500));
            lookAround(r * r);
            double whole = in(random, 1, 90000000);
            lookAround(whole * whole);
            lookAround(whole * (whole + 1.0));
        }
        for (int i = 0; i < 500000; i++) {
            look(Double.MIN_VALUE * in(random, 1, 1 << 30));
        }
        System.out.println(wrong == 0 ? "all numbers are as the library tells them" : wrong + " numbers are wrong");
        if (wrong != 0) {
            System.exit(1);
        }
    }

    private static int in(Random random, int low, int high) {
        return low + random.nextInt(high - low + 1);
    }
}
