import java.io.IOException;
import java.lang.reflect.Constructor;
import java.lang.reflect.Field;
import java.lang.reflect.Method;
import java.lang.reflect.Modifier;
import java.nio.file.Files;
import java.nio.file.Path;
import java.util.ArrayList;
import java.util.List;
import java.util.Map;
import java.util.Set;
import java.util.TreeMap;
import java.util.TreeSet;
import java.util.regex.Matcher;
import java.util.regex.Pattern;

/** The rules of ../shared/LANGUAGE.md that a look at the file and at the compiled class can hold. */
public final class LanguageTests {
    private static final Path PROGRAM = Path.of("src/main/java/CliffCars.java");
    private static final Path DOCUMENT = Path.of("../shared/DOC.md");
    private static final String[] NO_WORDS = {"throw", "throws", "try", "catch", "finally", "synchronized", "assert",
        "package", "protected", "volatile", "native", "transient", "Thread", "Random", "hashCode", "nanoTime",
        "currentTimeMillis"};
    private static final Set<String> IMPORTS = Set.of("java.util.ArrayList", "java.util.List", "java.util.Arrays",
        "java.util.Iterator");
    private static final Pattern LIBRARY = Pattern.compile("System\\.arraycopy|Arrays\\.(copyOf|copyOfRange|fill)"
        + "|(Math|Integer|Long)\\.(?!\\w*Exact\\b)\\w+");
    /** "Some sixty lines", "some twelve classes", "some twenty fields". */
    private static final int MOST_LINES = 66, MOST_CLASSES = 13, MOST_FIELDS = 22;

    private static int wrong = 0;

    private static void hold(boolean so, String what) {
        if (!so) {
            wrong++;
            System.out.println(what);
        }
    }

    public static void main(String[] args) throws IOException {
        String source = Files.readString(PROGRAM);
        String code = bare(source);
        words(code);
        lengths(code);
        face();
        constants();
        insideClasses();
        System.out.println(wrong == 0 ? "the language is kept" : wrong + " rules are broken");
        if (wrong != 0) {
            System.exit(1);
        }
    }

    /** The program without comments and without what texts and signs hold. */
    private static String bare(String source) {
        return source.replaceAll("(?s)/\\*.*?\\*/", "").replaceAll("//[^\n]*", "")
            .replaceAll("\"[^\"\n]*\"", "\"\"").replaceAll("'[^'\n]*'", "'_'");
    }

    private static void words(String code) {
        for (String word : NO_WORDS) {
            hold(!Pattern.compile("\\b" + word + "\\b").matcher(code).find(), "the program says " + word);
        }
        hold(!code.contains("::"), "a method reference");
        for (String line : code.split("\n")) {
            boolean ofSwitch = line.trim().startsWith("case ") || line.trim().startsWith("default ");
            hold(ofSwitch || !line.contains("->"), "a lambda: " + line.trim());
        }
        hold(!Pattern.compile("static\\s*\\{").matcher(code).find(), "a static initialiser block");
        hold(!Pattern.compile("\"\\s*\\+|\\+\\s*\"").matcher(code).find(), "a text joined by +");
        Matcher imports = Pattern.compile("\\bimport\\s+([\\w.*]+)").matcher(code);
        while (imports.find()) {
            hold(IMPORTS.contains(imports.group(1)), "the import of " + imports.group(1));
        }
        Matcher calls = Pattern.compile("\\b(Math|System|Long|Integer|Arrays)\\.\\w+").matcher(code);
        while (calls.find()) {
            hold(LIBRARY.matcher(calls.group()).matches(), "the library's " + calls.group());
        }
    }

    private static void lengths(String code) {
        Pattern head = Pattern.compile("^( {4}| {8})(public|private|static|int|long|boolean|void|[A-Z]\\w*)\\b[^;=]*\\) \\{$");
        String[] lines = code.split("\n", -1);
        for (int k = 0; k < lines.length; k++) {
            Matcher m = head.matcher(lines[k]);
            if (!m.matches()) {
                continue;
            }
            int end = k;
            while (end < lines.length && !lines[end].equals(m.group(1) + "}")) {
                end++;
            }
            hold(end - k <= MOST_LINES, "a method of more than some sixty lines: " + lines[k].trim());
            hold(lines[k].split(",").length <= 7, "more than seven parameters: " + lines[k].trim());
        }
    }

    private static void face() throws IOException {
        Set<String> want = new TreeSet<>();
        String document = Files.readString(DOCUMENT);
        int start = document.indexOf("```java");
        String block = document.substring(start, document.indexOf("```", start + 3));
        Matcher m = Pattern.compile("public (int|long) (\\w+)\\(([^)]*)\\);").matcher(block);
        while (m.find()) {
            want.add(m.group(1) + " " + m.group(2) + "(" + m.group(3).replaceAll(" \\w+(,|$)", "$1").replace(" ", "") + ")");
        }
        Set<String> have = new TreeSet<>();
        for (Method method : CliffCars.class.getDeclaredMethods()) {
            if (Modifier.isPrivate(method.getModifiers()) || method.isSynthetic()) {
                continue;
            }
            hold(Modifier.isPublic(method.getModifiers()), "neither public nor private: " + method);
            List<String> types = new ArrayList<>();
            for (Class<?> type : method.getParameterTypes()) {
                types.add(type.getName());
            }
            have.add(method.getReturnType() + " " + method.getName() + "(" + String.join(",", types) + ")");
        }
        hold(want.size() == 31 && want.equals(have), "the face is " + have + ", the document's is " + want);
        Constructor<?>[] makers = CliffCars.class.getDeclaredConstructors();
        hold(makers.length == 1 && Modifier.isPublic(makers[0].getModifiers()), "not one public constructor");
        hold(makers.length == 1 && makers[0].getParameterCount() == 0, "a constructor that wants something");
        hold(Modifier.isFinal(CliffCars.class.getModifiers()), "the class is not final");
        hold(Modifier.isPublic(CliffCars.class.getModifiers()), "the class is not public");
    }

    private static void constants() {
        Map<String, String> constants = new TreeMap<>();
        for (Field field : CliffCars.class.getDeclaredFields()) {
            int is = field.getModifiers();
            if (!Modifier.isPrivate(is) && !field.isSynthetic()) {
                hold(Modifier.isPublic(is) && Modifier.isStatic(is) && Modifier.isFinal(is), "no constant: " + field);
                constants.put(field.getName(), field.getType().getName());
            }
        }
        Map<String, String> want = Map.of("NONE", "int", "BAD", "int", "STATE", "int", "FULL", "int", "NO", "long");
        hold(constants.equals(want), "the constants are " + constants);
    }

    private static void insideClasses() {
        Set<String> faceNames = new TreeSet<>();
        for (Method method : CliffCars.class.getDeclaredMethods()) {
            if (Modifier.isPublic(method.getModifiers())) {
                faceNames.add(method.getName());
            }
        }
        List<Class<?>> all = new ArrayList<>(List.of(CliffCars.class.getDeclaredClasses()));
        all.add(CliffCars.class);
        hold(all.size() <= MOST_CLASSES, "more than some twelve classes");
        for (Class<?> one : all) {
            hold(one == CliffCars.class || Modifier.isStatic(one.getModifiers()), "not static: " + one);
            hold(one == CliffCars.class || !Modifier.isPublic(one.getModifiers()), "public: " + one);
            int fields = 0;
            for (Field field : one.getDeclaredFields()) {
                boolean fixed = Modifier.isStatic(field.getModifiers());
                hold(!fixed || Modifier.isFinal(field.getModifiers()), "a static field that is not final: " + field);
                fields += fixed ? 0 : 1;
            }
            hold(fields <= MOST_FIELDS, "more than some twenty fields: " + one);
            for (Method method : one.getDeclaredMethods()) {
                boolean hidden = Modifier.isPrivate(method.getModifiers());
                hold(!hidden || !faceNames.contains(method.getName()), "a private method with a name of the face: " + method);
            }
        }
    }
}
