import java.lang.reflect.InvocationTargetException;
import java.lang.reflect.Method;
import java.util.ArrayList;
import java.util.Arrays;
import java.util.Comparator;
import java.util.List;
import java.util.Set;

/**
 * Runs of 512 calls with any arguments: what a call throws stands in its throws clause and comes of the class itself;
 * and what throws, or only asks, changes nothing: without it all else answers the same.
 */
public final class AnyCallsTest {
    private static final Set<String> TELLING = Set.of("split", "flip", "disk", "move", "gasket", "turn", "tell", "append",
            "home", "nodes", "wire");
    private static final int[] EDGES = {Integer.MIN_VALUE, Integer.MIN_VALUE + 1, -1000000001, -1000000000, -1000001,
        -1000000, -1001, -1000, -17, -16, -2, 16, 17, 27, 28, 100, 999, 1000, 1001, 65536, 1000000, 1000001, 999999999,
        1000000000, 1000000001, Integer.MAX_VALUE - 1, Integer.MAX_VALUE};

    private record Asked(Method method, Object[] arguments) {
        String shown() {
            return method.getName() + Arrays.toString(arguments);
        }

        boolean isTelling() {
            return TELLING.contains(method.getName());
        }
    }

    public static void main(String[] args) {
        List<Method> face = new ArrayList<>();
        for (Method method : Koebehall.class.getDeclaredMethods()) {
            if (java.lang.reflect.Modifier.isPublic(method.getModifiers())) {
                face.add(method);
            }
        }
        face.sort(Comparator.comparing(Method::getName));
        for (int run = 0; run < 150; run++) {
            oneRun(run, face);
        }
        Check.end();
    }

    private static void oneRun(int run, List<Method> face) {
        List<Asked> calls = new ArrayList<>();
        for (int call = 0; call < 512; call++) {
            Method method = face.get(Check.pick(face.size()));
            calls.add(new Asked(method, argumentsFor(method)));
        }
        List<String> all = answers(new Koebehall(), calls);
        List<Asked> kept = new ArrayList<>();
        List<Asked> told = new ArrayList<>();
        List<String> keptDue = new ArrayList<>();
        List<String> toldDue = new ArrayList<>();
        for (int call = 0; call < calls.size(); call++) {
            boolean isThrown = all.get(call).startsWith("throws");
            if (!isThrown) {
                kept.add(calls.get(call));
                keptDue.add(all.get(call));
            }
            if (!isThrown && calls.get(call).isTelling()) {
                told.add(calls.get(call));
                toldDue.add(all.get(call));
            }
        }
        same("run " + run + " anew", calls, all, answers(new Koebehall(), calls));
        same("run " + run + " without what throws", kept, keptDue, answers(new Koebehall(), kept));
        same("run " + run + " without what asks", told, toldDue, answers(new Koebehall(), told));
    }

    private static void same(String when, List<Asked> calls, List<String> due, List<String> got) {
        for (int call = 0; call < calls.size(); call++) {
            int at = call;
            Check.holds(when + ": " + calls.get(at).shown() + " answered " + got.get(at) + ", due is " + due.get(at),
                    () -> due.get(at).equals(got.get(at)));
        }
    }

    private static List<String> answers(Koebehall x, List<Asked> calls) {
        List<String> found = new ArrayList<>();
        for (Asked call : calls) {
            found.add(answer(x, call));
        }
        return found;
    }

    private static String answer(Koebehall x, Asked call) {
        try {
            return String.valueOf(call.method.invoke(x, call.arguments));
        } catch (IllegalAccessException hidden) {
            return "hidden";
        } catch (InvocationTargetException wrapped) {
            Throwable thrown = wrapped.getCause();
            StackTraceElement[] open = thrown.getStackTrace();
            boolean isDue = Arrays.asList(call.method.getExceptionTypes()).contains(thrown.getClass())
                    && open.length > 0 && open[0].getClassName().startsWith("Koebehall");
            Check.holds(call.shown() + " throws " + thrown, () -> isDue);
            return "throws " + thrown.getClass().getName();
        }
    }

    private static Object[] argumentsFor(Method method) {
        if (method.getName().equals("gasket") && Check.pick(3) > 0) {
            int[][] fours = {{-1, 2, 2, 3}, {0, 0, 1, 1}, {3, -2, 6, 7}, {15, 2, 2, 3}, {14, 11, 15, -6}};
            int[] four = fours[Check.pick(fours.length)];
            return new Object[] {four[0], four[1], four[2], four[3]};
        }
        if (method.getName().equals("tell") && Check.pick(3) > 0) {
            int[][] moves = {{1, 1, 0, 1}, {0, -1, 1, 0}, {2, 1, 1, 1}, {1000, 999, 1, 1}};
            int[] move = moves[Check.pick(moves.length)];
            return new Object[] {move[0], move[1], move[2], move[3]};
        }
        // Seldom begun anew, lest no network has a tree.
        boolean isWild = Check.pick(6) == 0 || method.getName().equals("nodes") && Check.pick(6) > 0;
        Class<?>[] types = method.getParameterTypes();
        Object[] arguments = new Object[types.length];
        for (int at = 0; at < types.length; at++) {
            if (types[at] == boolean.class) {
                arguments[at] = Check.pick(2) == 0;
            } else if (isWild && Check.pick(2) == 0) {
                arguments[at] = EDGES[Check.pick(EDGES.length)];
            } else {
                arguments[at] = Check.pickFrom(-1, Check.pick(2) == 0 ? 4 : 12);
            }
        }
        return arguments;
    }
}
