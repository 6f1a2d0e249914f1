import java.io.IOException;
import java.lang.reflect.InvocationTargetException;
import java.lang.reflect.Method;
import java.lang.reflect.Modifier;
import java.nio.file.Files;
import java.nio.file.Path;
import java.util.ArrayList;
import java.util.List;
import java.util.Map;
import java.util.TreeMap;
import java.util.TreeSet;
import java.util.regex.Matcher;
import java.util.regex.Pattern;

/** What README.md shows: the calls of its examples answer as stands behind them, and its table has what is thrown. */
public final class ReadmeTest {
    private static final Pattern CALL = Pattern.compile("hall\\.(\\w+)\\((.*)\\); +// (throws )?([^:]+)(:.*)?");
    private static final List<Class<?>> THROWN = List.of(IndexOutOfBoundsException.class, IllegalArgumentException.class,
            IllegalStateException.class);

    public static void main(String[] args) throws IOException {
        List<String> lines = Files.readAllLines(Path.of("README.md"));
        Map<String, Method> face = face();
        examples(lines, face);
        thrown(lines, face);
        Check.end();
    }

    private static Map<String, Method> face() {
        Map<String, Method> found = new TreeMap<>();
        for (Method method : Koebehall.class.getDeclaredMethods()) {
            if (Modifier.isPublic(method.getModifiers())) {
                found.put(method.getName(), method);
            }
        }
        return found;
    }

    private static void examples(List<String> lines, Map<String, Method> face) {
        TreeSet<String> shown = new TreeSet<>();
        Koebehall hall = new Koebehall();
        for (String line : lines) {
            Matcher call = CALL.matcher(line);
            if (line.equals("Koebehall hall = new Koebehall();")) {
                hall = new Koebehall();
            } else if (line.startsWith("hall.")) {
                Check.holds("a call that can be read: " + line, () -> call.matches());
                Method method = face.get(call.group(1));
                Check.holds("a call of the class: " + line, () -> method != null);
                shown.add(call.group(1));
                String got = answer(hall, method, call.group(2));
                Check.holds(line + " answered " + got + ":", () -> got.equals(call.group(4).strip()));
            }
        }
        for (String name : face.keySet()) {
            Check.holds("an example of " + name, () -> shown.contains(name));
        }
    }

    private static String answer(Koebehall hall, Method method, String written) {
        List<Object> arguments = new ArrayList<>();
        for (String one : written.isEmpty() ? new String[0] : written.split(", ")) {
            arguments.add(valueOf(one));
        }
        try {
            return String.valueOf(method.invoke(hall, arguments.toArray()));
        } catch (InvocationTargetException thrown) {
            return thrown.getCause().getClass().getSimpleName();
        } catch (IllegalAccessException hidden) {
            return "hidden";
        }
    }

    private static Object valueOf(String written) {
        switch (written) {
            case "true":
            case "false":
                return Boolean.valueOf(written);
            case "Koebehall.NONE":
                return Koebehall.NONE;
            case "Koebehall.TOUCH":
                return Koebehall.TOUCH;
            default:
                return Integer.valueOf(written);
        }
    }

    private static void thrown(List<String> lines, Map<String, Method> face) {
        TreeSet<String> told = new TreeSet<>();
        for (String line : lines) {
            String[] cells = line.split("\\|", -1);
            Method method = cells.length == 6 ? face.get(cells[1].replace('`', ' ').strip()) : null;
            if (method == null) {
                continue;
            }
            told.add(method.getName());
            List<Class<?>> kinds = List.of(method.getExceptionTypes());
            for (int kind = 0; kind < 3; kind++) {
                boolean isDue = kinds.contains(THROWN.get(kind));
                boolean isTold = !cells[2 + kind].isBlank();
                String what = "README: " + method.getName() + " and " + THROWN.get(kind).getSimpleName();
                Check.holds(what, () -> isDue == isTold);
            }
        }
        for (Method method : face.values()) {
            String name = method.getName();
            Check.holds("what " + name + " throws", () -> told.contains(name) == method.getExceptionTypes().length > 0);
        }
    }
}
