import java.io.IOException;
import java.lang.reflect.Constructor;
import java.lang.reflect.Field;
import java.lang.reflect.Method;
import java.lang.reflect.Modifier;
import java.nio.file.Files;
import java.nio.file.Path;
import java.util.Arrays;
import java.util.Set;
import java.util.TreeSet;
import java.util.regex.Matcher;
import java.util.regex.Pattern;

/** The face of the document, and those rules of LANGUAGE.md that a look at the source can show. */
public final class LanguageTest {
    private static final Check CHECK = new Check("LanguageTest");
    private static final String FACE = "answer(4) book(0) change(1) count(1) drill(1) end(1) fault(1) feed(5) form(5) forms(3) "
        + "line(2) misses(2) place(2) read(0) rivals(3) row(5) unused(0) users(1) verb(2)";

    public static void main(String[] args) throws IOException {
        face();
        classesInside();
        source();
        CHECK.finish();
    }

    private static void face() {
        Class<?> school = VerbSchool.class;
        CHECK.due("public and final", school.getModifiers() & (Modifier.PUBLIC | Modifier.FINAL), Modifier.PUBLIC | Modifier.FINAL);
        Set<String> seen = new TreeSet<>();
        for (Method m : school.getDeclaredMethods()) {
            if (!Modifier.isPrivate(m.getModifiers())) {
                seen.add(m.getName() + "(" + m.getParameterCount() + ")");
                CHECK.due(m + " answers an int", m.getReturnType().getName(), "int");
            }
        }
        CHECK.due("methods", String.join(" ", seen), FACE);
        Set<String> constants = new TreeSet<>();
        for (Field f : school.getDeclaredFields()) {
            if (!Modifier.isPrivate(f.getModifiers())) {
                constants.add(f.getName());
            }
        }
        CHECK.due("constants", String.join(" ", constants), "FULL NONE RANGE");
        Constructor<?>[] makers = school.getDeclaredConstructors();
        CHECK.due("constructors", makers.length, 1);
        CHECK.due("its parameters", makers[0].getParameterCount(), 0);
        CHECK.due("NONE", VerbSchool.NONE, -1);
        CHECK.due("RANGE", VerbSchool.RANGE, -2);
        CHECK.due("FULL", VerbSchool.FULL, -3);
    }

    private static void classesInside() {
        Class<?>[] inside = VerbSchool.class.getDeclaredClasses();
        CHECK.due("at most some twelve classes", inside.length <= 12 ? 0 : inside.length, 0);
        for (Class<?> c : inside) {
            CHECK.due(c + " is static", Modifier.isStatic(c.getModifiers()) ? 1 : 0, 1);
            long fields = Arrays.stream(c.getDeclaredFields()).filter(f -> !Modifier.isStatic(f.getModifiers())).count();
            CHECK.due(c + " has few fields", fields <= 20 ? 0 : fields, 0);
            for (Method m : c.getDeclaredMethods()) {
                CHECK.due(m + " bears no name of the face", (" " + FACE).contains(" " + m.getName() + "(") ? 1 : 0, 0);
                CHECK.due(m + " has few parameters", m.getParameterCount() <= 7 ? 0 : 1, 0);
            }
        }
    }

    private static void source() throws IOException {
        String text = new String(Files.readAllBytes(Path.of("src/main/java/VerbSchool.java")), "ISO-8859-1");
        for (int i = 0; i < text.length(); i++) {
            if (text.charAt(i) > 127) {
                CHECK.due("sign " + i, text.charAt(i), 127);
            }
        }
        String code = text.replaceAll("(?s)/\\*.*?\\*/", "").replaceAll("//[^\n]*", "").replaceAll("\"[^\"\n]*\"", "\"\"");
        for (String word : new String[] {"throw", "throws", "try", "catch", "synchronized", "assert", "import", "package", "native",
            "volatile", "transient", "Object", "System.out", "hashCode", "toString", "protected", "double", "float"}) {
            absent(code, "\\b" + Pattern.quote(word) + "\\b");
        }
        absent(code, "->");
        absent(code, "::");
        absent(code, "static\\s*\\{");
        absent(code, "static (?!final )\\w+(\\[\\])? \\w+ *(=|;)");
        absent(code, "\"\" *\\+|\\+ *\"\"");
        absent(code, "\\w+Exact\\b");
    }

    private static void absent(String code, String pattern) {
        Matcher found = Pattern.compile(pattern).matcher(code);
        if (found.find()) {
            CHECK.due("the source at \"" + found.group() + "\"", 1, 0);
        }
    }
}
