import java.lang.reflect.InvocationTargetException;
import java.lang.reflect.Method;
import java.lang.reflect.Modifier;
import java.nio.file.Files;
import java.nio.file.Path;
import java.util.List;
import java.util.TreeSet;
import java.util.regex.Matcher;
import java.util.regex.Pattern;

/** The example of README.md: every call answers or throws what stands beside it, and no method is left out. */
public final class ReadmeTest extends Checks {
    private static final Pattern CALL = Pattern.compile("desk\\.(\\w+)\\((.*?)\\);\\s*(?://\\s*(.*))?");
    private static final Pattern DUE = Pattern.compile("(?:= |throws )([-\\w]+).*");

    private static Method methodNamed(String name) {
        for (Method method : RiverDesk.class.getDeclaredMethods()) {
            if (method.getName().equals(name) && Modifier.isPublic(method.getModifiers())) {
                return method;
            }
        }
        throw new AssertionError("README.md calls " + name + ", and there is no such method");
    }

    private static Object[] numbersIn(String arguments) {
        if (arguments.isEmpty()) {
            return new Object[0];
        }
        String[] texts = arguments.split(",\\s*");
        Object[] numbers = new Object[texts.length];
        for (int i = 0; i < texts.length; i++) {
            numbers[i] = texts[i].equals("RiverDesk.NONE") ? RiverDesk.NONE : Integer.parseInt(texts[i]);
        }
        return numbers;
    }

    /** The answer, or the name of what was thrown, as README.md writes it; nothing for a call without an answer. */
    private static String outcome(RiverDesk desk, Method method, Object[] arguments) throws IllegalAccessException {
        try {
            Object answer = method.invoke(desk, arguments);
            return answer == null ? "" : answer.toString();
        } catch (InvocationTargetException e) {
            return e.getCause().getClass().getSimpleName();
        }
    }

    private static String dueOf(String comment) {
        Matcher told = DUE.matcher(comment == null ? "" : comment);
        return told.matches() ? told.group(1) : "";
    }

    private static TreeSet<String> namesOfTheFace() {
        TreeSet<String> names = new TreeSet<>();
        for (Method method : RiverDesk.class.getDeclaredMethods()) {
            if (Modifier.isPublic(method.getModifiers())) {
                names.add(method.getName());
            }
        }
        return names;
    }

    public static void main(String[] args) throws Exception {
        List<String> lines = Files.readAllLines(Path.of("README.md"));
        int begin = lines.indexOf("```java");
        int end = begin + lines.subList(begin, lines.size()).indexOf("```");
        RiverDesk desk = new RiverDesk();
        TreeSet<String> unused = namesOfTheFace();
        for (String line : lines.subList(begin + 1, end)) {
            Matcher call = CALL.matcher(line);
            if (!call.matches()) {
                if (!line.isEmpty() && !line.equals("RiverDesk desk = new RiverDesk();")) {
                    tell("README.md has a line that is no call: " + line);
                }
                continue;
            }
            String got = outcome(desk, methodNamed(call.group(1)), numbersIn(call.group(2)));
            if (!got.equals(dueOf(call.group(3)))) {
                tell("README.md: " + line + " -- but it is: " + got);
            }
            unused.remove(call.group(1));
        }
        if (!unused.isEmpty()) {
            tell("README.md shows no call of " + unused);
        }
        finish("README.md's example is as due");
    }
}
