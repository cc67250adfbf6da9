import java.io.File;
import java.io.IOException;
import java.lang.reflect.InvocationTargetException;
import java.lang.reflect.Method;
import java.lang.reflect.Modifier;
import java.nio.file.Files;
import java.nio.file.Path;
import java.util.ArrayList;
import java.util.List;
import java.util.regex.Matcher;
import java.util.regex.Pattern;

/** What README.md says of the class: its examples are executed, and it leaves out no call and no test. */
final class ReadmeTest {
    private static final Pattern CALL = Pattern.compile("array\\.(\\w+)\\(([\\d, ]*)\\); +// (-?\\w+)(:.*)?");
    private static final Pattern TEXT = Pattern.compile("for \\(char sign : \"(.*)\"\\.toCharArray\\(\\)\\) \\{");
    private static final Pattern NAMED = Pattern.compile("`(\\w+)\\(([\\w, ]*)\\)`");

    private ReadmeTest() {
    }

    public static void main(String[] args) throws IOException, IllegalAccessException {
        List<String> page = Files.readAllLines(Path.of("README.md"));
        Check.holds("the page has examples", examples(page) > 0);
        Check.same("the calls that the page lists", listed(page), faceOf(SpreadParity.class).size());
        tests(String.join("\n", page));
        Check.end("ReadmeTest");
    }

    private static int examples(List<String> page) throws IllegalAccessException {
        SpreadParity array = new SpreadParity();
        boolean inside = false;
        int calls = 0;
        for (String line : page) {
            Matcher call = CALL.matcher(line);
            Matcher text = TEXT.matcher(line);
            if (line.startsWith("```")) {
                inside = !inside;
            } else if (!inside) {
                continue;
            } else if (line.equals("SpreadParity array = new SpreadParity();")) {
                array = new SpreadParity();
            } else if (text.matches()) {
                Check.type(array, text.group(1));
            } else if (call.matches()) {
                Check.same("the example " + line, answer(array, call.group(1), call.group(2)), call.group(3));
                calls++;
            } else {
                Check.holds("the example's line is known: " + line, line.equals("    array.append(sign);") || line.equals("}"));
            }
        }
        return calls;
    }

    private static String answer(SpreadParity array, String name, String numbers) throws IllegalAccessException {
        List<Object> given = new ArrayList<>();
        for (String number : numbers.split("[, ]+")) {
            if (!number.isEmpty()) {
                given.add(Integer.valueOf(number));
            }
        }
        for (Method method : faceOf(SpreadParity.class)) {
            if (method.getName().equals(name) && method.getParameterCount() == given.size()) {
                try {
                    return String.valueOf(method.invoke(array, given.toArray()));
                } catch (InvocationTargetException e) {
                    return e.getCause().getClass().getSimpleName();
                }
            }
        }
        return "no such call";
    }

    private static List<Method> faceOf(Class<?> type) {
        List<Method> face = new ArrayList<>();
        for (Method method : type.getDeclaredMethods()) {
            if (Modifier.isPublic(method.getModifiers())) {
                face.add(method);
            }
        }
        return face;
    }

    // Only the rows of tables list calls; elsewhere the page may speak of one again.
    private static int listed(List<String> page) {
        List<String> names = new ArrayList<>();
        for (String line : page) {
            Matcher named = NAMED.matcher(line.startsWith("|") ? line : "");
            while (named.find()) {
                int parameters = named.group(2).isEmpty() ? 0 : named.group(2).split(",").length;
                Check.holds(named.group() + " is a call of the face", isCall(named.group(1), parameters));
                Check.holds(named.group() + " is listed once", !names.contains(named.group(1)));
                names.add(named.group(1));
            }
        }
        return names.size();
    }

    private static boolean isCall(String name, int parameters) {
        for (Method method : faceOf(SpreadParity.class)) {
            if (method.getName().equals(name) && method.getParameterCount() == parameters) {
                return true;
            }
        }
        return false;
    }

    private static void tests(String page) {
        String[] files = new File("src/test/java").list();
        Check.holds("src/test/java is there", files != null);
        for (String file : files == null ? new String[0] : files) {
            if (file.endsWith("Test.java")) {
                String name = file.substring(0, file.length() - ".java".length());
                Check.holds("the page tells of " + name, page.contains("| `" + name + "` |"));
            }
        }
    }
}
