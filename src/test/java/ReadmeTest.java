import java.io.IOException;
import java.lang.reflect.Method;
import java.lang.reflect.Modifier;
import java.nio.file.Files;
import java.nio.file.Path;
import java.util.Map;
import java.util.TreeMap;
import java.util.regex.Matcher;
import java.util.regex.Pattern;

/** README.md tells the class as it is: its example answers what it says, and its table has every call. */
public final class ReadmeTest {
    private static final Path README = Path.of("README.md");
    private static final Pattern CALL = Pattern.compile("x\\.(\\w+)\\((.*)\\); +// (-?\\d+|true|false)(:.*)?");

    private static final Due DUE = new Due("ReadmeTest");

    private ReadmeTest() {
    }

    public static void main(String[] args) throws IOException, ReflectiveOperationException {
        String text = Files.readString(README);
        Map<String, Method> face = face();
        example(text, face);
        table(text, face);
        DUE.end();
    }

    private static Map<String, Method> face() {
        Map<String, Method> methods = new TreeMap<>();
        for (Method method : RollStages.class.getDeclaredMethods()) {
            if (Modifier.isPublic(method.getModifiers())) {
                methods.put(method.getName(), method);
            }
        }
        return methods;
    }

    private static void example(String text, Map<String, Method> face) throws ReflectiveOperationException {
        int begin = text.indexOf("```java\n") + "```java\n".length();
        String[] lines = text.substring(begin, text.indexOf("```", begin)).split("\n");
        DUE.text("RollStages x = new RollStages();", lines[0]);
        RollStages x = new RollStages();
        for (int i = 1; i < lines.length; i++) {
            Matcher call = CALL.matcher(lines[i]);
            DUE.text(lines[i], call.matches() ? lines[i] : "no call with its answer");
            if (call.matches()) {
                DUE.text(lines[i] + " " + call.group(3), lines[i] + " " + answer(x, face.get(call.group(1)), call.group(2)));
            }
        }
    }

    private static Object answer(RollStages x, Method method, String list) throws ReflectiveOperationException {
        String[] words = list.split(", ");
        Object[] arguments = new Object[words.length];
        for (int i = 0; i < words.length; i++) {
            boolean isFlag = method.getParameterTypes()[i] == boolean.class;
            arguments[i] = isFlag ? (Object) Boolean.valueOf(words[i]) : (Object) Integer.valueOf(words[i]);
        }
        return method.invoke(x, arguments);
    }

    private static void table(String text, Map<String, Method> face) {
        for (Method method : face.values()) {
            Matcher row = Pattern.compile("\\| `" + method.getName() + "\\(([^)]*)\\)` \\|").matcher(text);
            boolean isThere = row.find();
            int parameters = isThere ? row.group(1).split(", ").length : 0;
            DUE.text(method.getName() + " of " + method.getParameterCount(), method.getName() + " of " + parameters);
        }
    }
}
