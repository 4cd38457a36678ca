import java.nio.file.Files;
import java.nio.file.Path;
import java.util.List;

/** The program breaks none of LANGUAGE.md's rules, and Rules would tell it if it did. Run from the project's root. */
public final class RulesTest {
    private static int wrong = 0;

    public static void main(String[] args) throws Exception {
        for (String fault : Rules.brokenBy(Files.readString(Path.of("src/main/java/QuakeNet.java")))) {
            wrong++;
            System.out.println("rule " + fault);
        }
        rulesTellWhatIsBroken();
        System.out.println(wrong == 0 ? "the compiler sees the rules kept" : wrong + " faults");
        if (wrong != 0) {
            System.exit(1);
        }
    }

    private static void broken(int rule, String inside) throws Exception {
        List<String> told = Rules.brokenBy("public final class QuakeNet {\n" + inside + "\n}");
        if (told.stream().noneMatch(fault -> fault.startsWith(rule + ": "))) {
            wrong++;
            System.out.println("rule " + rule + " is not told to be broken by " + inside + ", but " + told);
        }
    }

    private static void rulesTellWhatIsBroken() throws Exception {
        if (!Rules.brokenBy("public final class QuakeNet { private int a = 1; public int b(int c) { return a + c; } }").isEmpty()) {
            wrong++;
            System.out.println("a program that keeps the rules is told to break one");
        }
        broken(1, "public int a() { return 1; } static class In { private int a() { return 2; } }");
        broken(1, "int a() { return 1; }");
        broken(1, "int a = 1;");
        broken(2, "private final class In { }");
        broken(2, "public int a() { class In { } return 1; }");
        broken(2, "public int a() { Runnable r = () -> { }; return 1; }");
        broken(3, "private String a = null;");
        broken(3, "private final long[][][] a = new long[1][1][1];");
        broken(3, "public double a(double b) { return b % 2.0; }");
        broken(3, "public double a(double b) { return -b; }");
        broken(3, "public double a(double b) { b++; return b; }");
        broken(4, "public long a(double b) { return Double.doubleToLongBits(b); }");
        broken(4, "public double a(double b) { return Math.max(b, 0.0); }");
        broken(4, "public int a(int b) { return Math.addExact(b, b); }");
        broken(5, "private static int a = 1;");
        broken(5, "private static final double A = 1.0;");
        broken(5, "static { int a = 1; }");
        broken(6, "public int a() { throw new IllegalArgumentException(); }");
        broken(6, "public int a() { try { return 1; } finally { } }");
        broken(6, "static class In { } private boolean a(In b, In c) { return b == c; }");
        broken(7, "public int a(int b) { return 1 / b; }");
        broken(7, "public int a(int b) { return 1 / 0; }");
        broken(8, "private int a(int b) { return c(b); } private int c(int b) { return a(b); }");
        broken(9, "public int a() { for (;;) { } }");
        broken(9, "public int a(int b) { for (int i = 0; i < b; i++) { i--; } return 1; }");
        broken(9, "public int a(int b) { while (b > 0) { } return 1; }");
        broken(11, "private int a(int b, int c, int d, int e, int f, int g, int h, int i) { return 1; }");
        broken(11, "private int a() { return 1;" + "\n".repeat(60) + "}");
        broken(11, chain(9));
        broken(11, fields(21));
        broken(11, nested(12));
        broken(12, "public int a() { int[] b = new int[1]; return b[0]; }");
        broken(12, "private final int[][] a = new int[2][]; public QuakeNet() { for (int i = 0; i < 2; i++) { a[i] = new int[1]; } }");
        if (!Rules.brokenBy("public final class QuakeNet {" + chain(8) + fields(20) + nested(11) + "}").isEmpty()) {
            wrong++;
            System.out.println("what is just within the bounds of rule 11 is told to break it");
        }
    }

    /** So many methods, each of which calls the next one. */
    private static String chain(int n) {
        StringBuilder all = new StringBuilder();
        for (int i = 0; i < n; i++) {
            all.append("private int m").append(i).append("() { return ").append(i + 1 < n ? "m" + (i + 1) + "()" : "1").append("; }");
        }
        return all.toString();
    }

    private static String fields(int n) {
        StringBuilder all = new StringBuilder();
        for (int i = 0; i < n; i++) all.append("private int f").append(i).append(';');
        return all.toString();
    }

    private static String nested(int n) {
        StringBuilder all = new StringBuilder();
        for (int i = 0; i < n; i++) all.append("static final class C").append(i).append(" { }");
        return all.toString();
    }
}
