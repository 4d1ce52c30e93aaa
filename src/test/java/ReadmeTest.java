import java.io.IOException;
import java.lang.reflect.InvocationTargetException;
import java.lang.reflect.Method;
import java.lang.reflect.Modifier;
import java.nio.file.Files;
import java.nio.file.Path;
import java.util.ArrayList;
import java.util.Arrays;
import java.util.Collection;
import java.util.List;
import java.util.Map;
import java.util.TreeMap;
import java.util.regex.Matcher;
import java.util.regex.Pattern;

/** README.md: each call of its examples answers what stands behind it, and its table of throws is the face's. */
public final class ReadmeTest {
    private static final String NEW_HOUSE = "MeterHouse house = new MeterHouse();";
    private static final Pattern CALL = Pattern.compile("house\\.(\\w+)\\(([^)]*)\\); +// ([^:]+)(: .+)?");
    private static final Pattern ROW = Pattern.compile("\\| `(\\w+)` \\|(.*)\\|(.*)\\|(.*)\\|");
    private static final List<Class<?>> COLUMNS = List.of(IndexOutOfBoundsException.class,
            IllegalArgumentException.class, IllegalStateException.class);

    private static MeterHouse house;
    private static final Map<String, Method> FACE = new TreeMap<>();
    private static final List<String> CALLED = new ArrayList<>();

    public static void main(String[] args) throws IOException {
        for (Method method : MeterHouse.class.getDeclaredMethods()) {
            if (Modifier.isPublic(method.getModifiers())) {
                FACE.put(method.getName(), method);
            }
        }
        List<String> lines = Files.readAllLines(Path.of("README.md"));
        examples(lines);
        throwsOfTheFace(lines);
        Check.end();
    }

    private static void examples(List<String> lines) {
        boolean isCode = false;
        for (String line : lines) {
            if (line.startsWith("```")) {
                isCode = line.equals("```java");
            } else if (isCode) {
                example(line);
            }
        }
        for (String name : List.of("point", "read", "bill", "settle")) {
            Check.dueText("an example of " + name, CALLED.contains(name) ? "there" : "none", "there");
        }
    }

    private static void example(String line) {
        if (line.equals(NEW_HOUSE)) {
            house = new MeterHouse();
            return;
        }
        Matcher call = CALL.matcher(line);
        boolean isCall = call.matches() && FACE.containsKey(call.group(1));
        Check.dueText(line, isCall ? "a call" : "no call", "a call");
        if (isCall) {
            CALLED.add(call.group(1));
            Check.dueText(line, answer(FACE.get(call.group(1)), call.group(2)), call.group(3));
        }
    }

    private static String answer(Method method, String arguments) {
        Object[] given = Arrays.stream(arguments.split(", ")).map(ReadmeTest::number).toArray();
        try {
            Object answer = method.invoke(house, given);
            return answer == null ? "nothing" : answer instanceof Character ? "'" + answer + "'" : answer.toString();
        } catch (InvocationTargetException thrown) {
            return "throws " + thrown.getCause().getClass().getSimpleName();
        } catch (IllegalAccessException | IllegalArgumentException unlike) {
            return "no such call: " + unlike.getMessage();
        }
    }

    private static Integer number(String argument) {
        switch (argument) {
            case "MeterHouse.FLAT":
                return MeterHouse.FLAT;
            case "MeterHouse.HOUSE":
                return MeterHouse.HOUSE;
            case "MeterHouse.SHOP":
                return MeterHouse.SHOP;
            default:
                return Integer.valueOf(argument);
        }
    }

    private static void throwsOfTheFace(List<String> lines) {
        Map<String, Collection<Class<?>>> told = new TreeMap<>();
        for (String line : lines) {
            Matcher row = ROW.matcher(line);
            if (row.matches()) {
                List<Class<?>> thrown = new ArrayList<>();
                for (int column = 0; column < COLUMNS.size(); column++) {
                    if (!row.group(2 + column).equals(" - ")) {
                        thrown.add(COLUMNS.get(column));
                    }
                }
                told.put(row.group(1), thrown);
            }
        }
        Map<String, Collection<Class<?>>> due = new TreeMap<>();
        FACE.forEach((name, method) -> due.put(name, Arrays.asList(method.getExceptionTypes())));
        Check.dueText("the table of throws", told.toString(), due.toString());
    }
}
