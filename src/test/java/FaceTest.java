import java.lang.reflect.Constructor;
import java.lang.reflect.Field;
import java.lang.reflect.Method;
import java.lang.reflect.Modifier;
import java.nio.file.Files;
import java.nio.file.Path;
import java.util.ArrayList;
import java.util.Arrays;
import java.util.List;
import java.util.Set;
import java.util.TreeSet;

/** The public face of the document, and the rules of LANGUAGE.md that can be looked up. Run from the project's directory. */
public final class FaceTest {
    private static final String[] FACE = {
        "int land(int,int,int,int)", "int ofHouse(int,int)", "int force(int,int)", "long beats(int,int,int,int)",
        "int kin(int,int,boolean)", "int early(int,int,int)", "int quarrel(int,int,int,int)", "int ofQuarrel(int,int)",
        "int may(int,int)", "int hire(int,int,int)", "long odds(int,int,int)", "long worth(int,int,int)",
        "long worthTo(int,int)", "int best(int,int,int)", "long bestWorth(int,int,int)", "long peace(int,int)",
        "int most(int,int)", "int book(int,int,int,int)", "int changes()", "int likeliest(int,int)",
        "long married(int,int,int)", "int sheet(int,int,int)", "int lose(int)", "int put(int,int,int)",
        "long cell(int,int,int)", "int copy(int,int,int,int,int)", "int tell(int)", "int call(int)", "int as(int,int)",
        "int trace()", "int fault()", "int many(int)"};
    private static final String[] CONSTANTS = {"UNKNOWN", "OUTSIDE", "STATE", "FULL", "NONE", "LOST"};
    private static final String[] BANNED = {"throw", "throws", "try", "catch", "finally", "synchronized", "assert",
        "hashCode", "toString", "lambda", "var", "protected", "Object", "System.out", "Exact"};

    private static int wrong = 0;

    private static void check(boolean is, String what) {
        if (!is) {
            wrong++;
            System.out.println("not so: " + what);
        }
    }

    private static String signature(Method m) {
        StringBuilder text = new StringBuilder(m.getReturnType() + " " + m.getName() + "(");
        for (int k = 0; k < m.getParameterCount(); k++) {
            text.append(k == 0 ? "" : ",").append(m.getParameterTypes()[k]);
        }
        return text.append(")").toString();
    }

    private static void face() {
        Class<LentChampions> c = LentChampions.class;
        check(Modifier.isPublic(c.getModifiers()) && Modifier.isFinal(c.getModifiers()), "the class is public and final");
        Set<String> want = new TreeSet<>(Arrays.asList(FACE));
        Set<String> names = new TreeSet<>();
        Set<String> got = new TreeSet<>();
        for (Method m : c.getDeclaredMethods()) {
            if (!Modifier.isPrivate(m.getModifiers()) && !m.isSynthetic()) {
                check(Modifier.isPublic(m.getModifiers()) && !Modifier.isStatic(m.getModifiers()), m + " is public");
                got.add(signature(m));
                names.add(m.getName());
            }
        }
        check(got.equals(want), "the methods are the document's, but are " + got);
        for (Method m : c.getDeclaredMethods()) {
            check(!Modifier.isPrivate(m.getModifiers()) || !names.contains(m.getName()), m + " bears no public name");
        }
        Set<String> constants = new TreeSet<>();
        for (Field f : c.getDeclaredFields()) {
            if (!Modifier.isPrivate(f.getModifiers()) && !f.isSynthetic()) {
                constants.add(f.getName());
            }
        }
        check(constants.equals(new TreeSet<>(Arrays.asList(CONSTANTS))), "the constants are the document's");
        Constructor<?>[] constructors = c.getDeclaredConstructors();
        check(constructors.length == 1 && Modifier.isPublic(constructors[0].getModifiers())
            && constructors[0].getParameterCount() == 0, "one public constructor");
        inside(c, names);
    }

    private static void inside(Class<?> c, Set<String> names) {
        check(c.getDeclaredClasses().length <= 11, "some twelve classes");
        for (Class<?> nested : c.getDeclaredClasses()) {
            check(Modifier.isStatic(nested.getModifiers()) && !Modifier.isPublic(nested.getModifiers()), nested + " is static");
            int fields = 0;
            for (Field f : nested.getDeclaredFields()) {
                boolean isStatic = Modifier.isStatic(f.getModifiers());
                check(!isStatic || Modifier.isFinal(f.getModifiers()), f + " is final");
                fields += isStatic ? 0 : 1;
            }
            check(fields <= 20, nested + " has some twenty fields");
            for (Method m : nested.getDeclaredMethods()) {
                check(m.getParameterCount() <= 7, m + " takes seven parameters");
                check(!names.contains(m.getName()), m + " bears no public name");
            }
        }
    }

    private static void source() throws Exception {
        List<String> lines = Files.readAllLines(Path.of("src/main/java/LentChampions.java"));
        List<String> code = new ArrayList<>();
        int imports = 0;
        int start = -1;
        for (int k = 0; k < lines.size(); k++) {
            String line = lines.get(k);
            String bare = line.strip();
            boolean comment = bare.startsWith("//") || bare.startsWith("*") || bare.startsWith("/*");
            imports += bare.startsWith("import ") ? 1 : 0;
            check(line.chars().allMatch(ch -> ch >= 32 && ch < 127), "line " + (k + 1) + " has plain signs alone");
            if (!comment) {
                code.add(line);
            }
            if (line.matches(" {4}(    )?[A-Za-z@].*\\) \\{")) {
                start = k;
            }
            if (start >= 0 && line.matches(" {4}(    )?\\}")) {
                check(k - start <= 60, "the method at line " + (start + 1) + " is short");
                start = -1;
            }
        }
        check(imports == 1 && lines.contains("import java.util.Arrays;"), "Arrays alone is brought in");
        for (String word : BANNED) {
            for (String line : code) {
                check(!line.matches(".*\\b" + word.replace(".", "\\.") + "\\b.*"), "no " + word + " in: " + line);
            }
        }
        for (String line : code) {
            check(!line.contains("->") && !line.contains("::"), "no lambda, no method reference in: " + line);
            check(!line.matches(".*\\b(double|float)\\b.*"), "nothing but whole numbers in: " + line);
        }
    }

    public static void main(String[] args) throws Exception {
        face();
        source();
        System.out.println(wrong == 0 ? "the face and the rules are kept" : wrong + " things are not so");
        if (wrong != 0) {
            System.exit(1);
        }
    }
}
