import java.io.IOException;
import java.lang.reflect.InvocationTargetException;
import java.lang.reflect.Method;
import java.lang.reflect.Modifier;
import java.nio.file.Files;
import java.nio.file.Path;
import java.util.HashMap;
import java.util.List;
import java.util.Map;
import java.util.TreeMap;
import java.util.TreeSet;
import java.util.regex.Matcher;
import java.util.regex.Pattern;

/** Makes the calls that README.md shows, in its order, and compares the answers with those that it tells. */
public final class BondOfficeReadme extends OfficeTest {
    private static final Path README = Path.of("README.md");
    private static final int MOST_CALLS = 512;
    private static final String NEW_OFFICE = "BondOffice office = new BondOffice();";
    private static final Pattern SHOWN =
            Pattern.compile("(?:(int|long) (\\w+) = )?office\\.(\\w+)\\(([^)]*)\\);\\s*//\\s*(.+)");
    private static final Pattern TOLD = Pattern.compile("(?:throws (\\w+)|(-?\\d+))\\b.*");

    private final Map<String, Method> methods = new TreeMap<>();
    private final Map<String, Integer> names = new HashMap<>();
    private final TreeSet<String> shown = new TreeSet<>();
    private BondOffice office = null;
    private int calls = 0;

    private BondOfficeReadme() {
        for (Method method : BondOffice.class.getDeclaredMethods()) {
            if (Modifier.isPublic(method.getModifiers())) {
                methods.put(method.getName(), method);
            }
        }
    }

    public static void main(String[] args) throws IOException {
        new BondOfficeReadme().follow(Files.readAllLines(README));
        end();
    }

    private void follow(List<String> lines) {
        boolean inJava = false;
        for (int i = 0; i < lines.size(); i++) {
            String line = lines.get(i).strip();
            if (line.startsWith("```")) {
                inJava = line.equals("```java");
            } else if (inJava && !line.isEmpty() && !line.startsWith("//")) {
                followLine("README.md, line " + (i + 1) + ": ", line);
            }
        }
        due("README.md shows each method of the face", shown.equals(methods.keySet()) ? 1 : 0, 1);
    }

    private void followLine(String where, String line) {
        if (line.equals(NEW_OFFICE)) {
            office = new BondOffice();
            names.clear();
            calls = 0;
            return;
        }
        Matcher call = SHOWN.matcher(line);
        if (!call.matches()) {
            fail(where + "no call with an answer: " + line);
            return;
        }
        Method method = methods.get(call.group(3));
        Object[] arguments = arguments(call.group(4));
        if (office == null || method == null || arguments == null
                || arguments.length != method.getParameterCount()) {
            fail(where + "no such call: " + line);
            return;
        }
        String type = call.group(1);
        if (type != null && !type.equals(method.getReturnType().getName())) {
            fail(where + "the answer is no " + type);
        }
        calls++;
        due(where + "calls of one office beyond 512", Math.max(0, calls - MOST_CALLS), 0);
        shown.add(method.getName());
        compare(where + line, call.group(5), call.group(2), () -> invoke(method, arguments));
    }

    /** The numbers of a call, written out or by the names of earlier answers; null, if one is neither. */
    private Object[] arguments(String list) {
        if (list.isBlank()) {
            return new Object[0];
        }
        String[] parts = list.split(",");
        Object[] numbers = new Object[parts.length];
        for (int i = 0; i < parts.length; i++) {
            String part = parts[i].strip();
            if (part.matches("-?(0x[0-9A-F]{1,8}|\\d{1,9})")) {
                numbers[i] = (int) (long) Long.decode(part);
            } else if (names.containsKey(part)) {
                numbers[i] = names.get(part);
            } else {
                return null;
            }
        }
        return numbers;
    }

    private void compare(String what, String told, String name, Call call) {
        Matcher answer = TOLD.matcher(told);
        if (!answer.matches()) {
            fail(what + " tells no answer");
        } else if (answer.group(1) != null) {
            dueThrow(what, exceptionNamed(answer.group(1)), call);
        } else {
            long got = call.answer();
            due(what, got, Long.parseLong(answer.group(2)));
            if (name != null) {
                names.put(name, (int) got);
            }
        }
    }

    private static Class<?> exceptionNamed(String name) {
        try {
            return Class.forName("java.lang." + name);
        } catch (ClassNotFoundException e) {
            throw new IllegalStateException(e);
        }
    }

    private long invoke(Method method, Object[] arguments) {
        try {
            return ((Number) method.invoke(office, arguments)).longValue();
        } catch (InvocationTargetException e) {
            if (e.getCause() instanceof RuntimeException thrown) {
                throw thrown;
            }
            throw new IllegalStateException(e);
        } catch (IllegalAccessException e) {
            throw new IllegalStateException(e);
        }
    }
}
