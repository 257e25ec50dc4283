import java.io.IOException;
import java.lang.reflect.Method;
import java.lang.reflect.Modifier;
import java.nio.file.Files;
import java.nio.file.Path;
import java.util.Set;
import java.util.TreeSet;
import java.util.regex.Matcher;
import java.util.regex.Pattern;

/** Makes the calls of README.md: each answers as the page says, and each method of the class is used on it. */
public final class ReadmeTest {
    private static final Due DUE = new Due("ReadmeTest");
    private static final String MAKES = "FairWheel wheel = new FairWheel();";
    private static final Pattern CALL = Pattern.compile("wheel\\.(\\w+)\\((.*?)\\); +// (true|false|-?\\d+)(: .*)?");
    private static final Set<String> USED = new TreeSet<>();

    public static void main(String[] args) throws IOException, ReflectiveOperationException {
        boolean inside = false;
        FairWheel wheel = null;
        for (String line : Files.readAllLines(Path.of("README.md"))) {
            if (line.startsWith("```")) {
                inside = line.equals("```java");
                wheel = null;
            } else if (inside && line.equals(MAKES)) {
                wheel = new FairWheel();
            } else if (inside) {
                ask(wheel, line);
            }
        }
        allAreUsed();
        DUE.end();
    }

    private static void ask(FairWheel wheel, String line) throws ReflectiveOperationException {
        Matcher call = CALL.matcher(line);
        boolean plain = wheel != null && call.matches();
        DUE.is("a call with its answer: " + line, true, plain);
        Method method = plain ? methodOf(call.group(1)) : null;
        if (method == null) {
            DUE.is("a method: " + line, true, false);
            return;
        }
        USED.add(call.group(1));
        Object answer = method.invoke(wheel, numbers(method, call.group(2), line));
        DUE.is(line + " (it answered " + answer + ")", true, answer.toString().equals(call.group(3)));
    }

    private static Method methodOf(String name) {
        for (Method method : FairWheel.class.getDeclaredMethods()) {
            if (Modifier.isPublic(method.getModifiers()) && method.getName().equals(name)) {
                return method;
            }
        }
        return null;
    }

    /** Only numbers stand there; one that Java would not take at its place is not as due. */
    private static Object[] numbers(Method method, String text, String line) {
        String[] parts = text.isEmpty() ? new String[0] : text.split(", ");
        Class<?>[] types = method.getParameterTypes();
        DUE.is("as many numbers as are asked: " + line, types.length, parts.length);
        Object[] numbers = new Object[types.length];
        for (int i = 0; i < types.length; i++) {
            String part = i < parts.length ? parts[i] : "0";
            boolean isLong = part.endsWith("L");
            DUE.is("a number that fits its place: " + line, true, !isLong || types[i] == long.class);
            String digits = part.replace("_", "").replace("L", "");
            long number = digits.startsWith("0x")
                    ? Long.parseUnsignedLong(digits.substring(2), 16) : Long.parseLong(digits);
            DUE.is("a number that is an int, or has an L: " + line, true, isLong || number == (int) number);
            if (types[i] == long.class) {
                numbers[i] = number;
            } else {
                numbers[i] = (int) number;
            }
        }
        return numbers;
    }

    private static void allAreUsed() {
        for (Method method : FairWheel.class.getDeclaredMethods()) {
            if (Modifier.isPublic(method.getModifiers())) {
                DUE.is("README.md uses " + method.getName(), true, USED.contains(method.getName()));
            }
        }
    }

    private ReadmeTest() {
    }
}
