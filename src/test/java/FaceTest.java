import java.lang.reflect.Constructor;
import java.lang.reflect.Field;
import java.lang.reflect.Method;
import java.lang.reflect.Modifier;
import java.util.TreeSet;

/** The public face: what the document shows, and nothing that others could see beside it. */
final class FaceTest {
    public static void main(String[] args) {
        Checks checks = new Checks("the face");
        TreeSet<String> seen = new TreeSet<>();
        for (Method method : ValueTexts.class.getDeclaredMethods()) {
            if (!Modifier.isPrivate(method.getModifiers()) && !method.isSynthetic()) {
                seen.add(method.toString());
            }
        }
        for (Constructor<?> constructor : ValueTexts.class.getDeclaredConstructors()) {
            if (!constructor.isSynthetic()) {
                seen.add(constructor.toString());
            }
        }
        for (Field field : ValueTexts.class.getDeclaredFields()) {
            if (!Modifier.isPrivate(field.getModifiers()) && !field.isSynthetic()) {
                seen.add(field.toString());
            }
        }
        TreeSet<String> want = new TreeSet<>();
        want.add("public ValueTexts()");
        for (String constant : new String[] {"REFUSED", "NONE", "FULL", "BROKEN"}) {
            want.add("public static final int ValueTexts." + constant);
        }
        for (String method : new String[] {"feed(int,int,int,int,int)", "end(int)", "read()", "write()", "top()", "item(int)",
                "find()", "look(int)", "bytes(int)", "octet(int)"}) {
            want.add("public int ValueTexts." + method);
        }
        checks.due("the members", seen.toString(), want.toString());
        checks.due("the class", Modifier.toString(ValueTexts.class.getModifiers()), "public final");
        for (Class<?> inside : ValueTexts.class.getDeclaredClasses()) {
            checks.due(inside.getName() + " is static", Modifier.isStatic(inside.getModifiers()) ? 1 : 0, 1);
        }
        checks.finish();
    }
}
