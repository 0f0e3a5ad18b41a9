import java.io.IOException;
import java.lang.reflect.Method;
import java.lang.reflect.Modifier;
import java.nio.file.Files;
import java.nio.file.Path;
import java.util.TreeSet;
import java.util.regex.Matcher;
import java.util.regex.Pattern;

/** The calls in the Java blocks of README.md answer what stands there, and every call of the face stands there. */
public final class ReadmeTest {
    private static final String NEW = "PatternGreeter desk = new PatternGreeter();";
    private static final Pattern CALL = Pattern.compile("desk\\.(\\w+)\\(([^)]*)\\);(?: +// (.+))?");
    private static final Pattern ANSWER = Pattern.compile("(-?\\d+|throws \\w+)(?:: .+)?");

    private final TreeSet<String> notShown = new TreeSet<>();
    private Both desk;

    public static void main(String[] args) throws IOException {
        new ReadmeTest().run();
        Answer.end();
    }

    private void run() throws IOException {
        for (Method method : PatternGreeter.class.getDeclaredMethods()) {
            if (Modifier.isPublic(method.getModifiers())) {
                notShown.add(method.getName());
            }
        }
        boolean inBlock = false;
        for (String line : Files.readAllLines(Path.of("README.md"))) {
            if (line.startsWith("```")) {
                inBlock = line.equals("```java");
            } else if (inBlock) {
                take(line);
            }
        }
        Answer.due("calls that README.md does not show", notShown.toString(), "[]");
    }

    private void take(String line) {
        if (line.equals(NEW)) {
            desk = new Both("README.md");
            return;
        }
        Matcher parts = CALL.matcher(line);
        if (desk == null || !parts.matches()) {
            Answer.due("README.md, " + line, "not understood", "a call");
            return;
        }
        notShown.remove(parts.group(1));
        Answer.due("README.md, " + line, made(parts.group(1), parts.group(2)), shown(parts.group(3)));
    }

    /** A comment that is no answer only explains a call that answers nothing. */
    private static String shown(String comment) {
        Matcher answer = ANSWER.matcher(comment == null ? "" : comment);
        return answer.matches() ? answer.group(1).replace("throws ", "throws.") : "nothing";
    }

    private String made(String name, String list) {
        String[] texts = list.isEmpty() ? new String[0] : list.split(", ");
        for (Method method : PatternGreeter.class.getDeclaredMethods()) {
            if (method.getName().equals(name) && method.getParameterCount() == texts.length) {
                return answerOf(name, method.getParameterTypes(), texts);
            }
        }
        return "no such call";
    }

    private String answerOf(String name, Class<?>[] types, String[] texts) {
        Object[] values = new Object[texts.length];
        for (int i = 0; i < texts.length; i++) {
            values[i] = valueOf(types[i], texts[i]);
        }
        try {
            return ((Answer) Both.class.getDeclaredMethod(name, types).invoke(desk, values)).text;
        } catch (ReflectiveOperationException e) {
            throw new AssertionError(e);
        }
    }

    /** As Java reads it: what is too large for an int needs its L. */
    private static Object valueOf(Class<?> type, String text) {
        if (type == boolean.class) {
            return Boolean.valueOf(text);
        }
        if (type == int.class) {
            return Integer.decode(text);
        }
        if (text.endsWith("L")) {
            return Long.decode(text.substring(0, text.length() - 1));
        }
        return Integer.decode(text).longValue();
    }
}
