import java.io.IOException;
import java.lang.reflect.Constructor;
import java.lang.reflect.Field;
import java.lang.reflect.Method;
import java.lang.reflect.Modifier;
import java.nio.file.Files;
import java.nio.file.Path;
import java.util.ArrayList;
import java.util.List;
import java.util.Set;
import java.util.TreeSet;
import java.util.regex.Matcher;
import java.util.regex.Pattern;

/** The rules of ../shared/LANGUAGE.md that a look at the file and at the compiled class can hold. */
public final class LanguageTests {
    private static final Path PROGRAM = Path.of("src/main/java/CliffCars.java");
    private static final Path DOCUMENT = Path.of("../shared/DOC.md");
    private static final String[] NO_WORDS = {"throw", "throws", "try", "catch", "finally", "synchronized", "assert",
        "import", "package", "protected", "volatile", "native", "transient", "default ->", "Object", "Thread",
        "Random", "Exception", "Error", "equals", "hashCode", "toString", "double", "float", "var", "yield"};
    private static final Set<String> LIBRARY = Set.of("Math.max", "Math.min", "Math.floorDiv", "System.arraycopy",
        "Long.MIN_VALUE");

    private static int wrong = 0;

    private static void hold(boolean so, String what) {
        if (!so) {
            wrong++;
            System.out.println(what);
        }
    }

    public static void main(String[] args) throws IOException {
        String source = Files.readString(PROGRAM);
        String code = bare(source);
        words(code);
        lengths(code);
        face();
        insideClasses();
        System.out.println(wrong == 0 ? "the language is kept" : wrong + " rules are broken");
        if (wrong != 0) {
            System.exit(1);
        }
    }

    /** The program without comments and without what texts and signs hold. */
    private static String bare(String source) {
        return source.replaceAll("(?s)/\\*.*?\\*/", "").replaceAll("//[^\n]*", "")
            .replaceAll("\"[^\"\n]*\"", "\"\"").replaceAll("'[^'\n]*'", "'_'");
    }

    private static void words(String code) {
        for (String word : NO_WORDS) {
            hold(!Pattern.compile("\\b" + word + "\\b").matcher(code).find(), "the program says " + word);
        }
        hold(!code.contains("->") && !code.contains("::"), "a lambda or a method reference");
        hold(!Pattern.compile("static\\s*\\{").matcher(code).find(), "a static initialiser block");
        hold(!Pattern.compile("\"\\s*\\+|\\+\\s*\"").matcher(code).find(), "a text joined by +");
        Matcher calls = Pattern.compile("\\b(Math|System|Long|Integer|Arrays)\\.\\w+").matcher(code);
        while (calls.find()) {
            hold(LIBRARY.contains(calls.group()), "the library's " + calls.group());
        }
    }

    private static void lengths(String code) {
        Pattern head = Pattern.compile("^( {4}| {8})(public|private|static|int|long|boolean|void|[A-Z]\\w*)\\b[^;=]*\\) \\{$");
        String[] lines = code.split("\n", -1);
        for (int k = 0; k < lines.length; k++) {
            Matcher m = head.matcher(lines[k]);
            if (!m.matches()) {
                continue;
            }
            int end = k;
            while (end < lines.length && !lines[end].equals(m.group(1) + "}")) {
                end++;
            }
            hold(end - k <= 60, "a method of more than 60 lines: " + lines[k].trim());
            hold(lines[k].split(",").length <= 7, "more than seven parameters: " + lines[k].trim());
        }
    }

    private static void face() throws IOException {
        Set<String> want = new TreeSet<>();
        String document = Files.readString(DOCUMENT);
        int start = document.indexOf("```java");
        String block = document.substring(start, document.indexOf("```", start + 3));
        Matcher m = Pattern.compile("public (int|long) (\\w+)\\(([^)]*)\\);").matcher(block);
        while (m.find()) {
            want.add(m.group(1) + " " + m.group(2) + "(" + m.group(3).replaceAll(" \\w+(,|$)", "$1").replace(" ", "") + ")");
        }
        Set<String> have = new TreeSet<>();
        for (Method method : CliffCars.class.getDeclaredMethods()) {
            if (Modifier.isPrivate(method.getModifiers())) {
                continue;
            }
            hold(Modifier.isPublic(method.getModifiers()), "neither public nor private: " + method);
            List<String> types = new ArrayList<>();
            for (Class<?> type : method.getParameterTypes()) {
                types.add(type.getName());
            }
            have.add(method.getReturnType() + " " + method.getName() + "(" + String.join(",", types) + ")");
        }
        hold(want.size() == 31 && want.equals(have), "the face is " + have + ", the document's is " + want);
        Set<String> constants = new TreeSet<>();
        for (Field field : CliffCars.class.getDeclaredFields()) {
            if (!Modifier.isPrivate(field.getModifiers())) {
                constants.add(field.getName());
            }
        }
        hold(constants.equals(Set.of("NONE", "BAD", "STATE", "FULL", "NO")), "the constants are " + constants);
        Constructor<?>[] makers = CliffCars.class.getDeclaredConstructors();
        hold(makers.length == 1 && Modifier.isPublic(makers[0].getModifiers()), "not one public constructor");
        hold(Modifier.isFinal(CliffCars.class.getModifiers()), "the class is not final");
    }

    private static void insideClasses() {
        Set<String> faceNames = new TreeSet<>();
        for (Method method : CliffCars.class.getDeclaredMethods()) {
            if (Modifier.isPublic(method.getModifiers())) {
                faceNames.add(method.getName());
            }
        }
        List<Class<?>> all = new ArrayList<>(List.of(CliffCars.class.getDeclaredClasses()));
        all.add(CliffCars.class);
        hold(all.size() <= 12, "more than twelve classes");
        for (Class<?> one : all) {
            hold(one == CliffCars.class || Modifier.isStatic(one.getModifiers()), "not static: " + one);
            hold(one == CliffCars.class || !Modifier.isPublic(one.getModifiers()), "public: " + one);
            int fields = 0;
            for (Field field : one.getDeclaredFields()) {
                boolean fixed = Modifier.isStatic(field.getModifiers());
                hold(!fixed || Modifier.isFinal(field.getModifiers()), "a static field that is not final: " + field);
                fields += fixed ? 0 : 1;
            }
            hold(fields <= 20, "more than twenty fields: " + one);
            for (Method method : one.getDeclaredMethods()) {
                boolean ofFace = one == CliffCars.class && Modifier.isPublic(method.getModifiers());
                hold(ofFace || !faceNames.contains(method.getName()), "a name of the face: " + method);
            }
        }
    }
}
