import java.lang.reflect.Method;
import java.nio.file.Files;
import java.nio.file.Path;
import java.util.regex.Matcher;
import java.util.regex.Pattern;

/** The calls that README.md shows answer what it says behind them. */
public final class ReadmeTest {
    private static final Pattern CALL = Pattern.compile("x\\.(\\w+)\\(([^)]*)\\);\\s*// (-?\\d+):.*");
    private static final String MADE = "DiverBottle x = new DiverBottle();";
    private static final int LEAST_CALLS = 20;

    public static void main(String[] args) throws Exception {
        DiverBottle x = new DiverBottle();
        boolean inCode = false;
        int calls = 0, unread = 0;
        for (String line : Files.readAllLines(Path.of("README.md"))) {
            if (line.startsWith("```")) {
                inCode = line.equals("```java");
                continue;
            }
            if (!inCode) continue;
            Matcher m = CALL.matcher(line);
            if (line.equals(MADE)) {
                x = new DiverBottle();
            } else if (m.matches()) {
                calls++;
                Check.due(line, answer(x, m.group(1), m.group(2)), Long.parseLong(m.group(3)));
            } else {
                unread++;
                System.out.println("README.md: this is no call with its answer: " + line);
            }
        }
        Check.close(unread == 0 && calls >= LEAST_CALLS);
    }

    private static int answer(DiverBottle x, String name, String told) throws Exception {
        String[] parts = told.isEmpty() ? new String[0] : told.split(", ");
        for (Method m : DiverBottle.class.getMethods()) {
            Class<?>[] types = m.getParameterTypes();
            if (!m.getName().equals(name) || types.length != parts.length) continue;
            Object[] values = new Object[parts.length];
            for (int i = 0; i < parts.length; i++) values[i] = value(types[i], parts[i]);
            return (Integer) m.invoke(x, values);
        }
        throw new IllegalArgumentException("README.md: no such call: " + name + "(" + told + ")");
    }

    private static Object value(Class<?> type, String part) {
        if (type == boolean.class) return Boolean.valueOf(part);
        if (type == int.class) return Integer.valueOf(part);
        return Long.parseUnsignedLong(part.substring("0x".length(), part.length() - 1), 16);
    }
}
