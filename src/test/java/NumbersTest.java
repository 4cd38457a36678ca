import java.util.Random;

/** The program's own acts on doubles against those of the Java library, bit for bit. */
public final class NumbersTest {
    private static int wrong = 0;

    private static void due(String what, double of, long got, long want) {
        if (got != want) {
            wrong++;
            if (wrong < 20) {
                System.out.println(what + " of " + of + " is " + got + ", due is " + want);
            }
        }
    }

    private static void look(double v) {
        due("bits", v, QuakeNet.Numbers.bitsOf(v), Double.doubleToLongBits(v));
        double u = Math.abs(v);
        due("abs", v, Double.doubleToLongBits(QuakeNet.Numbers.abs(v)), Double.doubleToLongBits(u));
        due("root", u, Double.doubleToLongBits(QuakeNet.Numbers.root(u)), Double.doubleToLongBits(Math.sqrt(u)));
        if (v < 0.0) {
            due("root", v, Double.doubleToLongBits(QuakeNet.Numbers.root(v)), 0L);
        }
        if (u > 0.0 && !Double.isInfinite(u)) {
            due("exponent", u, QuakeNet.Numbers.exponentOf(u), Math.getExponent(u));
            due("log", u, Double.doubleToLongBits(QuakeNet.Numbers.log(u)), Double.doubleToLongBits(ReferenceNet.log(u)));
        }
    }

    private static void lookAround(double v) {
        double[] all = {v, Math.nextUp(v), Math.nextDown(v), Math.nextUp(Math.nextUp(v)), Math.nextDown(Math.nextDown(v))};
        for (double w : all) {
            if (!Double.isNaN(w)) {
                look(w);
                look(-w);
            }
        }
    }

    public static void main(String[] args) {
        double[] edges = {0.0, -0.0, Double.MIN_VALUE, Double.MIN_NORMAL, Double.MAX_VALUE, 1.0, 2.0, 3.0, 4.0, 0.5, 0.25,
            Double.POSITIVE_INFINITY, Double.NEGATIVE_INFINITY};
        for (double v : edges) {
            lookAround(v);
        }
        for (int n = -1074; n <= 1023; n++) {
            lookAround(Math.scalb(1.0, n));
            lookAround(Math.scalb(1.5, n));
        }
        Random random = new Random(5);
        for (int i = 0; i < 3000000; i++) {
            double v = Double.longBitsToDouble(random.nextLong());
            if (!Double.isNaN(v)) {
                look(v);
            }
            look(1.0 + 3.0 * random.nextDouble());
        }
        for (int i = 0; i < 500000; i++) {
            // squares and their neighbours lie nearest to the borders of rounding
            double r = Math.scalb(1.0 + random.nextDouble(), in(random, -500, 500));
            lookAround(r * r);
            double whole = in(random, 1, 90000000);
            lookAround(whole * whole);
            lookAround(whole * (whole + 1.0));
        }
        for (int i = 0; i < 500000; i++) {
            look(Double.MIN_VALUE * in(random, 1, 1 << 30));
        }
        pivotsAtTheBorder();
        threeEquations(random);
        middles();
        System.out.println(wrong == 0 ? "all numbers are as the library tells them" : wrong + " numbers are wrong");
        if (wrong != 0) {
            System.exit(1);
        }
    }

    private static boolean solves(double... diagonal) {
        double[] row = new double[64];
        for (int c = 0; c < 3; c++) {
            row[3 * c + c] = diagonal[c];
            row[9 + c] = 1.0;
        }
        return QuakeNet.Numbers.solve(row);
    }

    /** SINGULAR, if that is not > 1.0E-9. */
    private static void pivotsAtTheBorder() {
        for (int c = 0; c < 3; c++) {
            for (int sign = -1; sign <= 1; sign += 2) {
                double[] at = {1.0, 1.0, 1.0}, above = {1.0, 1.0, 1.0}, below = {1.0, 1.0, 1.0};
                at[c] = sign * 1.0E-9;
                above[c] = sign * Math.nextUp(1.0E-9);
                below[c] = sign * Math.nextDown(1.0E-9);
                due("solved at", at[c], solves(at) ? 1 : 0, 0);
                due("solved at", above[c], solves(above) ? 1 : 0, 1);
                due("solved at", below[c], solves(below) ? 1 : 0, 0);
            }
        }
        due("solved at", 0.0, solves(0.0, 0.0, 0.0) ? 1 : 0, 0);
    }

    // Few numbers, so that many rows have the same greatest one: the first of these is taken.
    private static void threeEquations(Random random) {
        for (int i = 0; i < 200000; i++) {
            double scale = i % 3 == 0 ? 1.0E-9 : i % 3 == 1 ? 1.0 / 3.0 : 1.0;
            double[] row = new double[64];
            double[][] rows = new double[3][4];
            for (int k = 0; k < 12; k++) {
                row[k] = in(random, -3, 3) * scale;
                if (k < 9) rows[k / 3][k % 3] = row[k];
                else rows[k - 9][3] = row[k];
            }
            double[] want = ReferenceNet.solve(rows);
            boolean solved = QuakeNet.Numbers.solve(row);
            due("solved", i, solved ? 1 : 0, want == null ? 0 : 1);
            for (int k = 0; solved && want != null && k < 3; k++) {
                due("answer " + k, i, Double.doubleToLongBits(row[12 + k]), Double.doubleToLongBits(want[k]));
            }
        }
    }

    private static void middles() {
        double[] row = {5.0, 3.0, 9.0, 1.0, 7.0, 0.5};
        double[] want = {0.0, 5.0, 4.0, 5.0, 4.0, 5.0, 4.0};
        for (int n = 0; n <= 6; n++) {
            due("middle", n, Double.doubleToLongBits(QuakeNet.Numbers.middleOf(row.clone(), n)), Double.doubleToLongBits(want[n]));
        }
    }

    private static int in(Random random, int low, int high) {
        return low + random.nextInt(high - low + 1);
    }
}
