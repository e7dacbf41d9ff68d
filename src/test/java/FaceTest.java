import java.lang.reflect.Constructor;
import java.lang.reflect.Field;
import java.lang.reflect.Method;
import java.lang.reflect.Modifier;
import java.util.Set;
import java.util.TreeSet;

/** The public face: just the document's constants, constructor and methods. */
public final class FaceTest {
    private static final Set<String> METHODS = Set.of(
            "boolean type(int)", "void wipe()", "int length()", "int at(int)", "int compile(int,int)", "int matches(int)",
            "int positions(int)", "int states(int)", "int kinds(int)", "int within(int,int)", "int witness(int,int)",
            "long words(int,int)");

    public static void main(String[] args) {
        Check check = new Check("FaceTest");
        check.due("NONE", PatternDialects.NONE, -1);
        check.due("BAD", PatternDialects.BAD, -100);
        check.due("TOO_BIG", PatternDialects.TOO_BIG, -101);
        check.due("class", Modifier.toString(PatternDialects.class.getModifiers()), "public final");
        check.due("constructors", constructors(), "public PatternDialects()");
        check.due("methods", methods().toString(), new TreeSet<>(METHODS).toString());
        check.due("fields", fields().toString(), "[BAD, NONE, TOO_BIG]");
        check.end();
    }

    private static String constructors() {
        StringBuilder all = new StringBuilder();
        for (Constructor<?> constructor : PatternDialects.class.getDeclaredConstructors()) {
            all.append(constructor);
        }
        return all.toString();
    }

    private static Set<String> methods() {
        Set<String> all = new TreeSet<>();
        for (Method method : PatternDialects.class.getDeclaredMethods()) {
            if (!Modifier.isPrivate(method.getModifiers())) {
                all.add(method.toString().replace("public ", "").replace("PatternDialects.", ""));
            }
        }
        return all;
    }

    private static Set<String> fields() {
        Set<String> all = new TreeSet<>();
        for (Field field : PatternDialects.class.getDeclaredFields()) {
            if (!Modifier.isPrivate(field.getModifiers())) {
                all.add(field.getName());
            }
        }
        return all;
    }
}
