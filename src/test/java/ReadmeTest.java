import java.io.IOException;
import java.lang.reflect.InvocationTargetException;
import java.lang.reflect.Method;
import java.lang.reflect.Modifier;
import java.nio.file.Files;
import java.nio.file.Path;
import java.util.TreeSet;
import java.util.regex.Matcher;
import java.util.regex.Pattern;

/** The example in README.md: each call answers what the comment behind it says, and no call of the face is left out. */
public final class ReadmeTest {
    private static final Pattern CALL = Pattern.compile("pool\\.(\\w+)\\(([^()]*)\\); +// ([^:]+)(: .*)?");

    private final Coverpool pool = new Coverpool();
    private final TreeSet<String> shown = new TreeSet<>();

    public static void main(String[] args) throws IOException, ReflectiveOperationException {
        ReadmeTest test = new ReadmeTest();
        for (String line : example().split("\n")) {
            test.line(line.trim());
        }
        Check.at("README.md");
        Check.dueText("the calls it shows", publicCalls().toString(), test.shown.toString());
        Check.end();
    }

    private static String example() throws IOException {
        String readme = Files.readString(Path.of("README.md"));
        int start = readme.indexOf("```java\n");
        int end = readme.indexOf("```\n", start + 1);
        return start < 0 || end < 0 ? "" : readme.substring(start + "```java\n".length(), end);
    }

    private void line(String line) throws ReflectiveOperationException {
        Check.at("README.md, '" + line + "'");
        if (line.isEmpty() || line.startsWith("//") || line.equals("Coverpool pool = new Coverpool();")) {
            return;
        }
        Matcher call = CALL.matcher(line);
        boolean fits = call.matches();
        Check.due("is a call with its answer behind it", true, fits);
        if (fits) {
            shown.add(call.group(1));
            String answer = answer(call.group(1), call.group(2));
            Check.dueText("the call", meant(call.group(3).trim()), answer);
        }
    }

    private String answer(String name, String arguments) throws ReflectiveOperationException {
        String[] words = arguments.isEmpty() ? new String[0] : arguments.split(", ");
        Object[] values = new Object[words.length];
        for (int i = 0; i < words.length; i++) {
            values[i] = Integer.valueOf(meant(words[i]));
        }
        for (Method method : Coverpool.class.getDeclaredMethods()) {
            if (method.getName().equals(name) && method.getParameterCount() == values.length) {
                return answer(method, values);
            }
        }
        return "no such call";
    }

    private String answer(Method method, Object[] values) throws IllegalAccessException {
        try {
            Object answer = method.invoke(pool, values);
            return answer == null ? "answers nothing" : answer.toString();
        } catch (InvocationTargetException e) {
            return "throws " + e.getCause().getClass().getSimpleName();
        }
    }

    /** A constant stands for its number, any other word for itself. */
    private static String meant(String word) throws ReflectiveOperationException {
        if (!word.startsWith("Coverpool.")) {
            return word;
        }
        return Coverpool.class.getField(word.substring("Coverpool.".length())).get(null).toString();
    }

    private static TreeSet<String> publicCalls() {
        TreeSet<String> names = new TreeSet<>();
        for (Method method : Coverpool.class.getDeclaredMethods()) {
            if (Modifier.isPublic(method.getModifiers())) {
                names.add(method.getName());
            }
        }
        return names;
    }
}
