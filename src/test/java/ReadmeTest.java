import java.io.IOException;
import java.lang.reflect.Method;
import java.lang.reflect.Modifier;
import java.nio.file.Files;
import java.nio.file.Path;
import java.util.Set;
import java.util.TreeSet;
import java.util.regex.Matcher;
import java.util.regex.Pattern;

/** That each answer which README.md tells in its examples and its table of refusals is the one that the class gives. */
public final class ReadmeTest {
    private static final Pattern MAKES = Pattern.compile("ThievesPaid city = new ThievesPaid\\(\\);");
    private static final Pattern ASKS = Pattern.compile("city\\.(\\w+)\\((.*)\\); +// (-?\\w+)(:.*)?");
    private static final Pattern REFUSAL = Pattern.compile("\\| `([A-Z]+)` \\| (-\\d+) \\| (-?\\d*) ?\\|.*");

    public static void main(String[] args) throws ReflectiveOperationException, IOException {
        String page = Files.readString(Path.of(System.getProperty("thieves.readme", "README.md")));
        examples(page);
        refusals(page);
        Check.finish();
    }

    private static void examples(String page) throws ReflectiveOperationException {
        Set<String> used = new TreeSet<>();
        ThievesPaid city = null;
        boolean inExample = false;
        for (String row : page.split("\n")) {
            if (row.startsWith("```")) {
                inExample = row.equals("```java");
            } else if (inExample && MAKES.matcher(row).matches()) {
                city = new ThievesPaid();
            } else if (inExample) {
                Matcher asks = ASKS.matcher(row);
                Check.holds("README.md: a row that tells an answer: " + row, asks.matches());
                if (asks.matches()) {
                    used.add(asks.group(1));
                    Check.due("README.md: " + row, ask(city, asks.group(1), asks.group(2)), number(asks.group(3)));
                }
            }
        }
        for (Method m : ThievesPaid.class.getDeclaredMethods()) {
            if (Modifier.isPublic(m.getModifiers())) {
                Check.holds("README.md shows " + m.getName(), used.contains(m.getName()));
            }
        }
    }

    private static void refusals(String page) throws ReflectiveOperationException {
        int told = 0;
        for (String row : page.split("\n")) {
            Matcher refusal = REFUSAL.matcher(row);
            if (refusal.matches()) {
                told++;
                long number = number(refusal.group(1));
                Check.due("README.md: " + refusal.group(1), Long.parseLong(refusal.group(2)), number);
                if (!refusal.group(3).isEmpty()) {
                    Check.due("README.md: whom " + refusal.group(1), Long.parseLong(refusal.group(3)), number - 100000);
                }
            }
        }
        Check.due("README.md: refusals", told, 4);
    }

    private static long ask(ThievesPaid city, String name, String arguments) throws ReflectiveOperationException {
        for (Method m : ThievesPaid.class.getDeclaredMethods()) {
            if (Modifier.isPublic(m.getModifiers()) && m.getName().equals(name)) {
                return ((Number) m.invoke(city, arguments(m.getParameterTypes(), arguments))).longValue();
            }
        }
        throw new NoSuchMethodException(name);
    }

    private static Object[] arguments(Class<?>[] types, String written) throws ReflectiveOperationException {
        String[] parts = written.isEmpty() ? new String[0] : written.split(", ");
        Object[] values = new Object[parts.length];
        for (int i = 0; i < parts.length; i++) {
            if (types[i] == boolean.class) {
                values[i] = Boolean.valueOf(parts[i]);
            } else if (types[i] == long.class) {
                values[i] = Long.decode(parts[i].replace("L", ""));
            } else {
                values[i] = (int) number(parts[i]);
            }
        }
        return values;
    }

    private static long number(String written) throws ReflectiveOperationException {
        return written.matches("[A-Z]+") ? ThievesPaid.class.getField(written).getInt(null) : Long.parseLong(written);
    }
}
