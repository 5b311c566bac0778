import java.io.IOException;
import java.lang.reflect.Executable;
import java.lang.reflect.Field;
import java.lang.reflect.Modifier;
import java.nio.file.Files;
import java.nio.file.Path;
import java.util.ArrayList;
import java.util.List;
import java.util.Set;
import java.util.TreeSet;
import java.util.regex.Matcher;
import java.util.regex.Pattern;

/** Rules of ../shared/LANGUAGE.md, by their numbers, as far as the text and the parts of the class show them. */
public final class LanguageTest {
    private static final Set<String> LIBRARY = Set.of("String", "StringBuilder", "Integer", "Long", "Math", "ArrayList",
        "List", "Iterator", "Iterable", "Comparable", "System", "Arrays");
    private static final List<Class<?>> classes = new ArrayList<>();
    private static final Check check = new Check();

    public static void main(String[] args) throws IOException {
        classes.add(DripSayings.class);
        classes.addAll(List.of(DripSayings.class.getDeclaredClasses()));
        String text = Files.readString(Path.of("src/main/java/DripSayings.java"));
        String code = text.replaceAll("(?s)/\\*.*?\\*/|//[^\n]*|'(\\\\.|[^'\\\\])'|\"(\\\\.|[^\"\\\\])*\"", "_");
        signs(text);
        words(code);
        names(code);
        methodLengths(code);
        parts();
        staticFields();
        check.end();
    }

    private static void absent(String rule, String pattern, String text) {
        Matcher matcher = Pattern.compile(pattern).matcher(text);
        String found = matcher.find() ? matcher.group() : "";
        check.due("rule " + rule + ": letters of '" + found + "'", found.length(), 0);
    }

    private static void signs(String text) {
        absent("4, signs 1 to 127", "[^\\x01-\\x7f]", text);
    }

    private static void words(String code) {
        absent("1, package or protected", "\\b(package|protected)\\b", code);
        absent("4, imports", "\\bimport (?!java\\.util\\.(ArrayList|List|Arrays|Iterator);)[^;]*", code);
        absent("2, lambdas and method references", "->|::", code);
        absent("2, anonymous classes", "\\bnew \\w+\\([^()]*\\) *\\{", code);
        absent("6", "\\b(throws?|try|catch|finally|synchronized|assert|hashCode)\\b", code);
        absent("6, of own objects", "\\b(boolean +equals|String +toString)\\b", code);
        absent("9", "\\bwhile *\\( *true *\\)|\\bfor *\\( *; *; *\\)", code);
    }

    /** Rule 4: a name with a large letter is one of the class's own, a constant, or of the library that is listed. */
    private static void names(String code) {
        Set<String> may = new TreeSet<>(LIBRARY);
        for (Class<?> own : classes) may.add(own.getSimpleName());
        Matcher matcher = Pattern.compile("\\b[A-Z]\\w*[a-z]\\w*\\b").matcher(code);
        while (matcher.find()) check.due("rule 4: " + matcher.group(), may.contains(matcher.group()) ? 1 : 0, 1);
        absent("4", "Exact\\b", code);
    }

    /** Rule 11: a method, or a block inside one, ends where its indentation ends. */
    private static void methodLengths(String code) {
        List<String> lines = code.lines().toList();
        int met = 0;
        for (int start = 0; start < lines.size(); start++) {
            String first = lines.get(start);
            if (!first.matches("( {4}| {8})\\w.*\\) \\{")) continue;
            int end = start;
            while (end < lines.size() && !lines.get(end).equals(first.replaceAll("\\S.*", "}"))) end++;
            check.due("rule 11: " + (end - start) + " lines of " + first, end - start <= 60 ? 1 : 0, 1);
            met++;
        }
        check.due("methods were found", met > 0 ? 1 : 0, 1);
    }

    private static void parts() {
        check.due("rule 11: classes " + classes.size(), classes.size() <= 12 ? 1 : 0, 1);
        for (Class<?> one : classes) {
            int fields = 0;
            for (Field field : one.getDeclaredFields()) if (!Modifier.isStatic(field.getModifiers())) fields++;
            check.due("rule 11: fields of " + one, fields <= 20 ? 1 : 0, 1);
            List<Executable> calls = new ArrayList<>(List.of(one.getDeclaredMethods()));
            calls.addAll(List.of(one.getDeclaredConstructors()));
            for (Executable call : calls) {
                check.due("rule 11: parameters of " + call, call.getParameterCount() <= 7 ? 1 : 0, 1);
            }
            check.due("rule 2: classes inside " + one, one == DripSayings.class ? 0 : one.getDeclaredClasses().length, 0);
        }
    }

    private static void staticFields() {
        Set<Class<?>> may = Set.of(int.class, long.class, boolean.class, char.class, String.class,
            int[].class, long[].class, char[].class, byte[].class);
        for (Class<?> one : classes) {
            for (Field field : one.getDeclaredFields()) {
                if (!Modifier.isStatic(field.getModifiers())) continue;
                boolean is = Modifier.isFinal(field.getModifiers()) && may.contains(field.getType());
                check.due("rule 5: " + field, is ? 1 : 0, 1);
            }
        }
    }
}
