import java.lang.reflect.Constructor;
import java.lang.reflect.Field;
import java.lang.reflect.Method;
import java.lang.reflect.Modifier;
import java.util.Arrays;
import java.util.TreeSet;

/** The public face: just the document's constructor and methods, and no other member that can be seen. */
public final class FaceTest {
    private static final String IAE = "IllegalArgumentException";
    private static final String ISE = "IllegalStateException";
    private static final String NSE = "NoSuchElementException";

    public static void main(String[] args) {
        int modifiers = PatternGreeter.class.getModifiers();
        Answer.due("modifiers", Modifier.toString(modifiers), "public final");
        TreeSet<String> want = new TreeSet<>(Arrays.asList(
            "PatternGreeter()", "int feed(int, long) " + IAE + " " + ISE, "int wipe()", "void clear()",
            "void known(int, int) " + IAE + " " + ISE, "int say(int) " + IAE + " " + ISE, "int next() " + ISE,
            "int rule()", "void key(int, int) " + IAE + " " + ISE, "void secret(int) " + IAE + " " + ISE,
            "void begin(int) " + IAE + " " + ISE, "int write(int) " + IAE + " " + ISE,
            "int read(int) " + IAE + " " + ISE, "int deliver(int) " + IAE + " " + ISE,
            "int alter(int, int, int) " + IAE + " " + NSE, "void number(int, boolean, long) " + IAE + " " + ISE,
            "void rekey(int, boolean) " + IAE + " " + ISE, "void hash(int) " + IAE, "void agree() " + IAE,
            "int result(int) " + NSE, "int at(int, int, int) " + IAE + " " + NSE, "long look(int, int) " + IAE));
        Answer.due("face", visible().toString(), want.toString());
        TreeSet<String> hidden = new TreeSet<>();
        for (Method method : PatternGreeter.class.getDeclaredMethods()) {
            if (Modifier.isPrivate(method.getModifiers()) && nameIsOfFace(method.getName())) {
                hidden.add(method.getName());
            }
        }
        Answer.due("private methods with a public one's name", hidden.toString(), "[]");
        Answer.end();
    }

    private static boolean nameIsOfFace(String name) {
        for (Method method : PatternGreeter.class.getDeclaredMethods()) {
            if (Modifier.isPublic(method.getModifiers()) && method.getName().equals(name)) {
                return true;
            }
        }
        return false;
    }

    private static TreeSet<String> visible() {
        TreeSet<String> seen = new TreeSet<>();
        for (Field field : PatternGreeter.class.getDeclaredFields()) {
            if (!Modifier.isPrivate(field.getModifiers())) {
                seen.add("field " + field.getName());
            }
        }
        for (Constructor<?> made : PatternGreeter.class.getDeclaredConstructors()) {
            seen.add(made.getName() + list(made.getParameterTypes(), "(", ", ", ")"));
        }
        for (Method method : PatternGreeter.class.getDeclaredMethods()) {
            if (!Modifier.isPrivate(method.getModifiers())) {
                seen.add(method.getReturnType() + " " + method.getName()
                    + list(method.getParameterTypes(), "(", ", ", ")")
                    + list(method.getExceptionTypes(), " ", " ", ""));
            }
        }
        return seen;
    }

    private static String list(Class<?>[] types, String before, String between, String behind) {
        StringBuilder text = new StringBuilder();
        for (int i = 0; i < types.length; i++) {
            text.append(i == 0 ? before : between).append(types[i].getSimpleName());
        }
        if (types.length == 0) {
            return before.isBlank() ? "" : before + behind;
        }
        return text.append(behind).toString();
    }
}
