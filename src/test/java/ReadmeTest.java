import java.io.IOException;
import java.lang.reflect.Method;
import java.nio.file.Files;
import java.nio.file.Path;
import java.util.regex.Matcher;
import java.util.regex.Pattern;

/** The calls of README.md, in its order, answer what it says of them. */
public final class ReadmeTest {
    private static final Check CHECK = new Check("ReadmeTest");
    private static final Pattern TYPED = Pattern.compile("type\\(x, \"(.*)\"\\);");
    private static final Pattern CALLED = Pattern.compile("x\\.(\\w+)\\(([-0-9, ]*)\\); *// (-?\\d+):.*");

    public static void main(String[] args) throws IOException, ReflectiveOperationException {
        VerbSchool x = new VerbSchool();
        int told = 0;
        for (String row : Files.readAllLines(Path.of("README.md"))) {
            Matcher typed = TYPED.matcher(row);
            Matcher called = CALLED.matcher(row);
            if (typed.matches()) {
                Check.type(x, typed.group(1));
            } else if (called.matches()) {
                CHECK.due(row, call(x, called.group(1), called.group(2)), Integer.parseInt(called.group(3)));
                told++;
            }
        }
        CHECK.due("README.md tells of calls", told > 10 ? 1 : told, 1);
        CHECK.finish();
    }

    private static int call(VerbSchool x, String name, String numbers) throws ReflectiveOperationException {
        String[] parts = numbers.isBlank() ? new String[0] : numbers.split(", *");
        Class<?>[] kinds = new Class<?>[parts.length];
        Object[] values = new Object[parts.length];
        for (int i = 0; i < parts.length; i++) {
            kinds[i] = int.class;
            values[i] = Integer.valueOf(parts[i].trim());
        }
        Method method = VerbSchool.class.getMethod(name, kinds);
        return (Integer) method.invoke(x, values);
    }
}
