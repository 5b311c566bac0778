import java.lang.reflect.Field;
import java.lang.reflect.Method;
import java.lang.reflect.Modifier;
import java.util.Map;
import java.util.TreeSet;

/** The public face: the constants and methods of the document, and no other. */
public final class FaceTest {
    private static final Check check = new Check();

    public static void main(String[] args) throws IllegalAccessException {
        check.due("modifiers of the class", DripSayings.class.getModifiers(), Modifier.PUBLIC | Modifier.FINAL);
        constants();
        methods();
        constructors();
        classesInside();
        check.end();
    }

    private static void constants() throws IllegalAccessException {
        Map<String, Integer> due = Map.of("NONE", -1, "UNKNOWN", -101, "OUTSIDE", -102, "STATE", -103, "FULL", -104);
        int met = 0;
        for (Field field : DripSayings.class.getDeclaredFields()) {
            if (Modifier.isStatic(field.getModifiers())) {
                check.due(field + " is final", field.getModifiers() & Modifier.FINAL, Modifier.FINAL);
            }
            if (Modifier.isPrivate(field.getModifiers())) continue;
            met++;
            check.due(field.toString(), field.getInt(null), due.getOrDefault(field.getName(), 0));
            check.due("modifiers of " + field, field.getModifiers(), Modifier.PUBLIC | Modifier.STATIC | Modifier.FINAL);
        }
        check.due("constants", met, due.size());
    }

    private static void methods() {
        TreeSet<String> due = new TreeSet<>(java.util.List.of(
            "int letter(int)", "int blank()", "int fault()", "int house()", "int saying(int,int)",
            "int tap(int,int)", "int about(int,int)", "int as(int,int)", "int drip(int,int)", "int listen(int)",
            "int washer(int,boolean)", "int teach(int,int)", "int agree(int,int)", "int near(int,int,int)",
            "int put(int,int,boolean)", "int forget()", "int nights(int,int,int)", "int image()", "int restore()",
            "int count(int)", "long digest()"));
        TreeSet<String> names = new TreeSet<>();
        for (String method : due) names.add(method.substring(method.indexOf(' ') + 1, method.indexOf('(')));
        TreeSet<String> met = new TreeSet<>();
        for (Method method : DripSayings.class.getDeclaredMethods()) {
            if (Modifier.isPrivate(method.getModifiers())) {
                check.due("private name as a public one: " + method, names.contains(method.getName()) ? 1 : 0, 0);
                continue;
            }
            String text = method.toGenericString().replace("DripSayings.", "").replace("public ", "");
            met.add(text);
        }
        check.due("methods " + met, met.equals(due) ? 1 : 0, 1);
    }

    private static void constructors() {
        var all = DripSayings.class.getDeclaredConstructors();
        check.due("constructors", all.length, 1);
        check.due("public DripSayings()", all[0].getModifiers(), Modifier.PUBLIC);
        check.due("parameters", all[0].getParameterCount(), 0);
    }

    private static void classesInside() {
        for (Class<?> inside : DripSayings.class.getDeclaredClasses()) {
            check.due(inside + " is static", inside.getModifiers() & Modifier.STATIC, Modifier.STATIC);
            check.due(inside + " is not public", inside.getModifiers() & (Modifier.PUBLIC | Modifier.PROTECTED), 0);
        }
    }
}
