import java.lang.reflect.Method;
import java.lang.reflect.Modifier;
import java.net.URI;
import java.nio.file.DirectoryStream;
import java.nio.file.Files;
import java.nio.file.Path;
import java.util.List;
import java.util.regex.Matcher;
import java.util.regex.Pattern;
import javax.tools.JavaCompiler;
import javax.tools.JavaFileObject;
import javax.tools.SimpleJavaFileObject;
import javax.tools.ToolProvider;

/** What README.md shows is so: its Java lines compile, and answer what stands behind '// ='. Run from the project's root. */
public final class ReadmeTest {
    private static final Pattern BLOCK = Pattern.compile("(?s)```java\n(.*?)```");
    private static final Pattern DECLARED = Pattern.compile("^(\\s*(?:int|long|double) (\\w+) = .*;)\\s*// = (\\S+).*$");
    private static final Pattern ASKED = Pattern.compile("^\\s*(net\\..*);\\s*// = (\\S+).*$");
    private static int wrong = 0;
    private static int looked = 0;

    /** The lines of README.md call this for each answer that they tell. */
    public static void due(String line, double got, double want) {
        looked++;
        if (got != want) {
            wrong++;
            System.out.println(line + " answered " + got + ", README.md tells " + want);
        }
    }

    public static void main(String[] args) throws Exception {
        String readme = Files.readString(Path.of("README.md"));
        Matcher m = BLOCK.matcher(readme);
        StringBuilder body = new StringBuilder();
        int told = 0;
        while (m.find()) {
            for (String line : m.group(1).split("\n")) {
                body.append(checking(line)).append('\n');
                told += line.contains("// = ") ? 1 : 0;
            }
        }
        run(body.toString());
        must(told > 0 && looked == told, "all " + told + " answers were looked at, not " + looked);
        for (Method call : QuakeNet.class.getDeclaredMethods()) {
            if (Modifier.isPublic(call.getModifiers())) {
                must(readme.contains("`" + call.getName() + "`"), "README.md names " + call.getName());
            }
        }
        must(readme.contains(".ci/run"), "README.md tells how to run the tests");
        try (DirectoryStream<Path> tests = Files.newDirectoryStream(Path.of("src/test/java"), "*Test.java")) {
            for (Path test : tests) must(readme.contains(test.getFileName().toString()), "README.md names " + test.getFileName());
        }
        System.out.println(wrong == 0 ? "README.md tells what is so" : wrong + " faults in README.md");
        if (wrong != 0) {
            System.exit(1);
        }
    }

    private static void must(boolean so, String what) {
        if (!so) {
            wrong++;
            System.out.println("not so: " + what);
        }
    }

    private static String checking(String line) {
        Matcher declared = DECLARED.matcher(line), asked = ASKED.matcher(line);
        if (declared.matches()) {
            return declared.group(1) + " ReadmeTest.due(\"" + declared.group(2) + "\", " + declared.group(2) + ", " + declared.group(3) + ");";
        }
        if (asked.matches()) {
            return "ReadmeTest.due(\"" + asked.group(1) + "\", " + asked.group(1) + ", " + asked.group(2) + ");";
        }
        return line;
    }

    private static void run(String body) throws Exception {
        String source = "public final class Shown { public static void show() {\n" + body + "} }";
        JavaFileObject file = new SimpleJavaFileObject(URI.create("string:///Shown.java"), JavaFileObject.Kind.SOURCE) {
            @Override public CharSequence getCharContent(boolean ignored) { return source; }
        };
        JavaCompiler compiler = ToolProvider.getSystemJavaCompiler();
        String here = System.getProperty("java.class.path");
        List<String> how = List.of("-cp", here, "-d", here);
        must(compiler.getTask(null, null, null, how, null, List.of(file)).call(), "README.md's lines compile");
        if (wrong == 0) {
            Class.forName("Shown").getMethod("show").invoke(null);
        }
    }
}
