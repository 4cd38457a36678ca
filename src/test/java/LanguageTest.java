import java.lang.reflect.Field;
import java.lang.reflect.Method;
import java.lang.reflect.Modifier;
import java.nio.file.Files;
import java.nio.file.Path;
import java.util.ArrayList;
import java.util.List;
import java.util.Set;
import java.util.TreeSet;
import java.util.regex.Matcher;
import java.util.regex.Pattern;

/** The rules of LANGUAGE.md that a look at the source and at the class can tell. Run from the project's root. */
public final class LanguageTest {
    private static final String[] FACE = {
        "int lane(int)", "int raw(long)", "int noise(int, int, long)", "int swing(int, int, int)",
        "int station(int, int, int)", "int calibrate(int, int, int, int)", "int filter(int, int, int)",
        "int picker(int, int, int, int, int)", "int wave(int, int)", "int term(int, int)",
        "int packet(int, int, int, int)", "long ground(int, int)", "long spectrum(int, int, int)",
        "int read(int, int)", "int skip(int)", "int rework(int)", "int status(int, int)", "long now(int, int)",
        "int trace(int)", "int pick(int, int)", "long amplitude(int)", "int tick()", "int rule(int, int)",
        "int alert(int, int)", "int layer(int, int)", "long time(int, int, int)", "int table(int, int)",
        "long tabled(int, int)", "long doubt()", "int vote(int, int, int, int)", "int event(int, int)",
        "long eventAt(int, int)", "int member(int, int)", "long residual(int, int)", "int place(int, int)",
        "int search(int, int, int)", "long error(int, int)", "long size(int)", "int swarms(int)", "int swarm(int)",
        "int known(int, int)", "int compare(int, int)", "long digest()", "int count(int)", "int code()",
    };
    private static int wrong = 0;

    private static void must(boolean ok, String what) {
        if (!ok) {
            wrong++;
            System.out.println("not so: " + what);
        }
    }

    public static void main(String[] args) throws Exception {
        face();
        for (Class<?> c : classes()) {
            shape(c);
        }
        source(Files.readString(Path.of("src/main/java/QuakeNet.java")));
        System.out.println(wrong == 0 ? "the rules are kept" : wrong + " rules are broken");
        if (wrong != 0) {
            System.exit(1);
        }
    }

    private static List<Class<?>> classes() {
        List<Class<?>> all = new ArrayList<>(List.of(QuakeNet.class.getDeclaredClasses()));
        all.add(QuakeNet.class);
        return all;
    }

    private static void face() {
        int mods = QuakeNet.class.getModifiers();
        must(Modifier.isPublic(mods) && Modifier.isFinal(mods), "the class is public and final");
        Set<String> want = new TreeSet<>(List.of(FACE)), got = new TreeSet<>();
        for (Method m : QuakeNet.class.getDeclaredMethods()) {
            if (!Modifier.isPrivate(m.getModifiers())) {
                List<String> types = new ArrayList<>();
                for (Class<?> t : m.getParameterTypes()) types.add(t.getName());
                got.add(m.getReturnType() + " " + m.getName() + "(" + String.join(", ", types) + ")");
            }
        }
        must(got.equals(want), "the methods are those of the document, and no others: " + got);
        must(QuakeNet.class.getDeclaredConstructors().length == 1 && QuakeNet.class.getConstructors().length == 1, "one constructor");
        Set<String> constants = new TreeSet<>();
        for (Field f : QuakeNet.class.getDeclaredFields()) if (!Modifier.isPrivate(f.getModifiers())) constants.add(f.getName());
        must(constants.equals(new TreeSet<>(List.of("UNKNOWN", "OUTSIDE", "STATE", "ROOM", "NONE"))), "the constants: " + constants);
        must(classes().size() <= 12, "twelve classes at most");
    }

    private static void shape(Class<?> c) {
        int fields = 0;
        for (Field f : c.getDeclaredFields()) {
            if (Modifier.isStatic(f.getModifiers())) {
                must(Modifier.isFinal(f.getModifiers()), f + " is final");
                must(f.getType() == int.class || f.getType() == long.class, f + " is an int or a long");
            } else {
                fields++;
            }
        }
        must(fields <= 20, c + " has twenty fields at most, not " + fields);
        Set<String> open = new TreeSet<>();
        for (Method m : QuakeNet.class.getDeclaredMethods()) if (Modifier.isPublic(m.getModifiers())) open.add(m.getName());
        for (Method m : c.getDeclaredMethods()) {
            must(m.getParameterCount() <= 7, m + " takes seven numbers at most");
            must(Modifier.isPublic(m.getModifiers()) || !open.contains(m.getName()), m + " bears no public name");
        }
        if (c != QuakeNet.class) {
            must(Modifier.isStatic(c.getModifiers()), c + " is static");
            must(!Modifier.isPublic(c.getModifiers()) && !Modifier.isProtected(c.getModifiers()), c + " is not open");
        }
    }

    private static void source(String text) {
        String code = text.replaceAll("(?s)/\\*.*?\\*/", "").replaceAll("//[^\n]*", "");
        for (String word : List.of("throw", "throws", "try", "catch", "finally", "synchronized", "assert", "import", "package",
                "Double", "Float", "System", "NaN", "strictfp", "volatile", "native", "var")) {
            must(!Pattern.compile("\\b" + word + "\\b").matcher(code).find(), "no " + word);
        }
        must(!code.contains("->") && !code.contains("::"), "no lambda, no method reference");
        must(!code.contains("\"") && !code.contains("'"), "no texts");
        Matcher m = Pattern.compile("\\b(Math|Integer|Long)\\.(\\w+)").matcher(code);
        while (m.find()) {
            must(Set.of("Math.min", "Math.max", "Integer.bitCount").contains(m.group()), "of the library only what is meant: " + m.group());
        }
        longestMethod(text);
    }

    private static void longestMethod(String text) {
        int began = 0, line = 0;
        String name = "";
        for (String l : text.split("\n")) {
            line++;
            if (l.matches("( {4}| {8})(public|private|static|[a-z]+)[^=;]*\\) \\{")) {
                began = line;
                name = l.trim();
            }
            if ((l.equals("    }") || l.equals("        }")) && began > 0) {
                must(line - began <= 60, "short enough: " + name + ", " + (line - began));
                began = 0;
            }
        }
    }
}
