import java.io.IOException;
import java.lang.reflect.InvocationTargetException;
import java.lang.reflect.Method;
import java.lang.reflect.Modifier;
import java.nio.file.Files;
import java.nio.file.Path;
import java.util.regex.Matcher;
import java.util.regex.Pattern;

/** The examples of README.md: each call is made and answers what stands behind it. */
public final class ReadmeTests {
    private static final Pattern CALL = Pattern.compile("x\\.(\\w+)\\(([^)]*)\\); +// (-?\\w+)(:.*)?");
    private static final String NEW = "RibbonBalloons x = new RibbonBalloons();";

    private RibbonBalloons x = new RibbonBalloons();
    private int calls = 0;

    private ReadmeTests() {
    }

    private static int number(String written) {
        boolean sign = written.length() == 3 && written.charAt(0) == '\'' && written.charAt(2) == '\'';
        return sign ? written.charAt(1) : Integer.parseInt(written);
    }

    private static Method method(String name) {
        for (Method method : RibbonBalloons.class.getDeclaredMethods()) {
            if (method.getName().equals(name) && Modifier.isPublic(method.getModifiers())) {
                return method;
            }
        }
        throw new IllegalArgumentException("no method " + name);
    }

    private String answer(String name, String written) throws IllegalAccessException {
        String[] parts = written.isEmpty() ? new String[0] : written.split(", ");
        Object[] numbers = new Object[parts.length];
        for (int i = 0; i < parts.length; i++) {
            numbers[i] = number(parts[i]);
        }
        try {
            return String.valueOf(method(name).invoke(x, numbers));
        } catch (InvocationTargetException thrown) {
            return thrown.getCause().getClass().getSimpleName();
        }
    }

    private void line(String line) throws IllegalAccessException {
        if (line.equals(NEW)) {
            x = new RibbonBalloons();
            return;
        }
        Matcher call = CALL.matcher(line);
        if (!call.matches()) {
            bad("not a call with its answer: " + line, true);
            return;
        }
        calls++;
        String got = answer(call.group(1), call.group(2));
        bad(line + " answers " + got, !got.equals(call.group(3)));
    }

    private static void bad(String what, boolean bad) {
        Checks.due(what, bad ? 1 : 0, 0);
    }

    private void examples(String readme) throws IllegalAccessException {
        boolean inside = false;
        for (String line : readme.split("\n")) {
            if (line.startsWith("```")) {
                inside = line.equals("```java");
            } else if (inside) {
                line(line);
            }
        }
        bad("the examples are found", calls == 0);
    }

    private static void names(String readme) {
        for (Method method : RibbonBalloons.class.getDeclaredMethods()) {
            if (Modifier.isPublic(method.getModifiers())) {
                bad(method.getName() + " is not named", !readme.contains("`" + method.getName() + "`"));
            }
        }
    }

    public static void main(String[] args) throws IOException, IllegalAccessException {
        String readme = Files.readString(Path.of("README.md"));
        new ReadmeTests().examples(readme);
        names(readme);
        Checks.end("ReadmeTests");
    }
}
