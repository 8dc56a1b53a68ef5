import java.io.File;
import java.lang.reflect.Method;
import java.lang.reflect.Modifier;
import java.net.URL;
import java.net.URLClassLoader;
import java.nio.file.Files;
import java.nio.file.Path;
import java.util.ArrayList;
import java.util.List;
import java.util.regex.Matcher;
import java.util.regex.Pattern;
import java.util.spi.ToolProvider;

/**
 * What README.md shows: its Java examples are joined to one program, compiled and run, and each call must answer what
 * its comment begins with. Run from the project's directory.
 */
public final class ReadmeTest {
    private static final Path README = Path.of("README.md");
    private static final Path TESTS = Path.of("src/test/java");
    private static final Pattern CALL = Pattern.compile("x\\.(\\w+)\\(");
    /** A call, perhaps kept in a variable, and the answer that the comment begins with: a number or a constant. */
    private static final Pattern SHOWN =
        Pattern.compile("\\s*(?:(int|long) (\\w+) = )?(x\\.\\w+\\(.*\\));\\s*// (-?\\d+|[A-Z]+)(?::.*)?");

    private static int wrong = 0;
    private static int calls = 0;

    private static void check(boolean is, String what) {
        if (!is) {
            wrong++;
            System.out.println("not so: " + what);
        }
    }

    /** The lines of README.md that stand in Java examples; the others are empty, so that numbers of lines stay. */
    private static List<String> examples(List<String> lines) {
        List<String> code = new ArrayList<>();
        boolean inside = false;
        for (String line : lines) {
            boolean fence = line.startsWith("```");
            inside = fence ? line.equals("```java") : inside;
            code.add(inside && !fence ? line : "");
        }
        check(!inside, "the last example of README.md ends");
        return code;
    }

    private static String program(List<String> code) {
        StringBuilder text = new StringBuilder();
        text.append("public final class Shown {\n");
        text.append("static int wrong = 0;\n");
        text.append("static void due(int line, long got, long want) { if (got != want) { wrong++;\n");
        text.append("System.out.println(\"README.md, line \" + line + \": answered \" + got + \", told is \" + want); } }\n");
        text.append("public static int run() {\n");
        for (int k = 0; k < code.size(); k++) {
            text.append(checked(code.get(k), k + 1)).append('\n');
        }
        text.append("return wrong; }\n");
        // Once more to the letter, since the lines above are not quite what README.md shows.
        text.append("static void asShown() {\n").append(String.join("\n", code)).append("\n}\n");
        return text.append("}\n").toString();
    }

    private static String checked(String line, int number) {
        if (!CALL.matcher(line).find()) {
            return line;
        }
        calls++;
        Matcher shown = SHOWN.matcher(line);
        if (!shown.matches()) {
            check(false, "line " + number + " of README.md is one call with its answer: " + line);
            return "";
        }
        String answer = shown.group(4);
        String want = Character.isLetter(answer.charAt(0)) ? "LentChampions." + answer : answer + "L";
        String kept = shown.group(2);
        String keep = kept == null ? "" : shown.group(1) + " " + kept + " = " + shown.group(3) + "; ";
        return keep + "due(" + number + ", " + (kept == null ? shown.group(3) : kept) + ", " + want + ");";
    }

    private static void compileAndRun(String program) throws Exception {
        Path out = Files.createTempDirectory("readme");
        try {
            Path source = Files.writeString(out.resolve("Shown.java"), program);
            String classPath = System.getProperty("java.class.path");
            int code = ToolProvider.findFirst("javac").orElseThrow().run(System.out, System.out,
                "-encoding", "UTF-8", "-cp", classPath, "-d", out.toString(), source.toString());
            check(code == 0, "the examples of README.md compile");
            if (code == 0) {
                runFrom(out);
            }
        } finally {
            for (File file : out.toFile().listFiles()) {
                Files.delete(file.toPath());
            }
            Files.delete(out);
        }
    }

    private static void runFrom(Path out) throws Exception {
        try (URLClassLoader loader = new URLClassLoader(new URL[] {out.toUri().toURL()})) {
            wrong += (int) loader.loadClass("Shown").getMethod("run").invoke(null);
        }
    }

    private static void showsEveryCall(List<String> code) {
        String all = String.join("\n", code);
        for (Method m : LentChampions.class.getDeclaredMethods()) {
            boolean isFace = Modifier.isPublic(m.getModifiers());
            check(!isFace || all.contains("x." + m.getName() + "("), "README.md shows " + m.getName());
        }
    }

    private static void namesEveryTest(List<String> lines) {
        String all = String.join("\n", lines);
        check(all.contains("`.ci/run`"), "README.md names .ci/run");
        for (File test : TESTS.toFile().listFiles()) {
            check(all.contains("`" + TESTS + "/" + test.getName() + "`"), "README.md names " + test.getName());
        }
    }

    public static void main(String[] args) throws Exception {
        List<String> lines = Files.readAllLines(README);
        List<String> code = examples(lines);
        compileAndRun(program(code));
        showsEveryCall(code);
        namesEveryTest(lines);
        check(calls > 0, "README.md shows calls");
        System.out.println(wrong == 0 ? calls + " calls that README.md shows answer as it says" : wrong + " things are not so");
        if (wrong != 0) {
            System.exit(1);
        }
    }
}
