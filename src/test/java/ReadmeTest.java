import java.io.IOException;
import java.lang.reflect.Method;
import java.nio.file.Files;
import java.nio.file.Path;
import java.util.regex.Matcher;
import java.util.regex.Pattern;

/** What README.md tells of the class is so: the rows of its example, and a row of its table for each call. */
public final class ReadmeTest {
    private static final Pattern HOUSE = Pattern.compile("for \\(char letter : \"([^\"]+)\"\\.toCharArray\\(\\)\\) x\\.letter");
    private static final Pattern ROW = Pattern.compile("x\\.(\\w+)\\(([^)]*)\\);\\s*// (-?\\d+):.*");
    private static final Check check = new Check();

    public static void main(String[] args) throws IOException, ReflectiveOperationException {
        String text = Files.readString(Path.of("README.md"));
        example(text);
        table(text);
        check.end();
    }

    private static void example(String text) throws ReflectiveOperationException {
        Matcher house = HOUSE.matcher(text);
        boolean hasHouse = house.find();
        check.due("the example writes a house", hasHouse ? 1 : 0, 1);
        DripSayings x = Check.withPage(hasHouse ? house.group(1) : "");
        int rows = 0;
        for (String line : text.lines().toList()) {
            if (!line.startsWith("x.")) continue;
            Matcher row = ROW.matcher(line);
            boolean isRow = row.matches();
            check.due("row of the example: " + line, isRow ? 1 : 0, 1);
            if (isRow) check.due(line, answer(x, row.group(1), row.group(2)), Long.parseLong(row.group(3)));
            rows++;
        }
        check.due("the example has rows", rows > 0 ? 1 : 0, 1);
    }

    private static long answer(DripSayings x, String name, String args) throws ReflectiveOperationException {
        String[] texts = args.isEmpty() ? new String[0] : args.split(", ");
        Method method = methodNamed(name);
        Object[] values = new Object[texts.length];
        for (int i = 0; i < texts.length; i++) {
            boolean isFlag = method.getParameterTypes()[i] == boolean.class;
            if (isFlag) values[i] = Boolean.valueOf(texts[i]);
            else values[i] = Integer.valueOf(texts[i]);
        }
        return ((Number) method.invoke(x, values)).longValue();
    }

    private static Method methodNamed(String name) throws NoSuchMethodException {
        for (Method method : DripSayings.class.getMethods()) if (method.getName().equals(name)) return method;
        throw new NoSuchMethodException(name);
    }

    private static void table(String text) {
        for (Method method : DripSayings.class.getMethods()) {
            if (method.getDeclaringClass() != DripSayings.class) continue;
            Matcher row = Pattern.compile("\\| `" + method.getName() + "\\(([^)]*)\\)` \\|").matcher(text);
            boolean hasRow = row.find();
            check.due("row of the table: " + method.getName(), hasRow ? 1 : 0, 1);
            if (!hasRow) continue;
            int parameters = row.group(1).isEmpty() ? 0 : row.group(1).split(", ").length;
            check.due("parameters of " + method.getName(), parameters, method.getParameterCount());
        }
    }
}
