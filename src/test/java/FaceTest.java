import java.io.IOException;
import java.lang.reflect.Constructor;
import java.lang.reflect.Field;
import java.lang.reflect.Method;
import java.lang.reflect.Modifier;
import java.nio.charset.StandardCharsets;
import java.nio.file.Files;
import java.nio.file.Path;
import java.util.ArrayList;
import java.util.Arrays;
import java.util.List;
import java.util.Set;
import java.util.TreeSet;

/** The face of the class, as the document has it, and the rules of LANGUAGE.md that its text shows. */
public final class FaceTest {
    private static final String[] FACE = {
        "int split(int) throws IndexOutOfBoundsException, IllegalStateException",
        "int flip(int, int) throws IndexOutOfBoundsException, IllegalStateException",
        "int corner(int, int) throws IndexOutOfBoundsException",
        "int around(int, int) throws IndexOutOfBoundsException",
        "int net(int) throws IndexOutOfBoundsException",
        "int disk(int, int, int) throws IllegalArgumentException, IllegalStateException",
        "int move(int, int, int, int) throws IndexOutOfBoundsException, IllegalArgumentException",
        "int lie(int, int) throws IndexOutOfBoundsException, IllegalArgumentException",
        "int pairs(int) throws IllegalArgumentException",
        "boolean draws()",
        "int gasket(int, int, int, int) throws IllegalArgumentException, IllegalStateException",
        "long turn(int, int) throws IndexOutOfBoundsException, IllegalStateException",
        "long curvature(int, int) throws IndexOutOfBoundsException",
        "float radius(int, int) throws IndexOutOfBoundsException",
        "long root(int, int) throws IndexOutOfBoundsException",
        "int count(int, int) throws IndexOutOfBoundsException, IllegalArgumentException, IllegalStateException",
        "int countAnew(int, int) throws IndexOutOfBoundsException, IllegalArgumentException, IllegalStateException",
        "int remainders(int, int) throws IndexOutOfBoundsException, IllegalArgumentException",
        "int ford(int, int, int, int) throws IllegalArgumentException",
        "long between(int, int, int, int, boolean) throws IllegalArgumentException",
        "int tell(int, int, int, int) throws IllegalArgumentException, IllegalStateException",
        "int append(int, boolean) throws IndexOutOfBoundsException, IllegalStateException",
        "int home()",
        "int word(int) throws IndexOutOfBoundsException",
        "long image(int, int, boolean) throws IllegalArgumentException",
        "int nodes(int) throws IllegalArgumentException",
        "int wire(int, int) throws IndexOutOfBoundsException, IllegalArgumentException, IllegalStateException",
        "int trees()",
        "int treesAnew()",
        "int side(int, int, int) throws IndexOutOfBoundsException, IllegalArgumentException, IllegalStateException",
    };

    // The block of the document, word for word.
    private static final String BLOCK = """
        public final class Koebehall {
            public static final int NONE = -1;
            public static final int APART = 0, TOUCH = 1, OVERLAP = 2;
            public Koebehall();
            public int split(int face) throws IndexOutOfBoundsException, IllegalStateException;
            public int flip(int corner, int other) throws IndexOutOfBoundsException, IllegalStateException;
            public int corner(int face, int place) throws IndexOutOfBoundsException;
            public int around(int corner, int place) throws IndexOutOfBoundsException;
            public int net(int what) throws IndexOutOfBoundsException;
            public int disk(int x, int y, int radius) throws IllegalArgumentException, IllegalStateException;
            public int move(int disk, int x, int y, int radius) throws IndexOutOfBoundsException, IllegalArgumentException;
            public int lie(int disk, int other) throws IndexOutOfBoundsException, IllegalArgumentException;
            public int pairs(int how) throws IllegalArgumentException;
            public boolean draws();
            public int gasket(int a, int b, int c, int d) throws IllegalArgumentException, IllegalStateException;
            public long turn(int gasket, int place) throws IndexOutOfBoundsException, IllegalStateException;
            public long curvature(int gasket, int place) throws IndexOutOfBoundsException;
            public float radius(int gasket, int place) throws IndexOutOfBoundsException;
            public long root(int gasket, int rank) throws IndexOutOfBoundsException;
            public int count(int gasket, int bound) throws IndexOutOfBoundsException, IllegalArgumentException, IllegalStateException;
            public int countAnew(int gasket, int bound) throws IndexOutOfBoundsException, IllegalArgumentException, IllegalStateException;
            public int remainders(int gasket, int by) throws IndexOutOfBoundsException, IllegalArgumentException;
            public int ford(int p, int q, int r, int s) throws IllegalArgumentException;
            public long between(int p, int q, int r, int s, boolean isTop) throws IllegalArgumentException;
            public int tell(int a, int b, int c, int d) throws IllegalArgumentException, IllegalStateException;
            public int append(int move, boolean isUndo) throws IndexOutOfBoundsException, IllegalStateException;
            public int home();
            public int word(int what) throws IndexOutOfBoundsException;
            public long image(int p, int q, boolean isTop) throws IllegalArgumentException;
            public int nodes(int many) throws IllegalArgumentException;
            public int wire(int node, int other) throws IndexOutOfBoundsException, IllegalArgumentException, IllegalStateException;
            public int trees();
            public int treesAnew();
            public int side(int from, int to, int wire) throws IndexOutOfBoundsException, IllegalArgumentException, IllegalStateException;
        }
        """;

    // Ahead of these calls the interface says what they are of.
    private static final String[][] HEADED = {{"// ---- the net", "split", "flip", "corner", "around", "net"},
        {"// ---- disks", "disk", "move", "lie", "pairs", "draws"},
        {"// ---- gaskets", "gasket", "turn", "curvature", "radius", "root", "count", "countAnew", "remainders"},
        {"// ---- fractions", "ford", "between"}, {"// ---- words", "tell", "append", "home", "word", "image"},
        {"// ---- networks", "nodes", "wire", "trees", "treesAnew", "side"}};

    private static final String[] NOT_IN_THE_TEXT = {
        "->", "::", "synchronized", "finally", "assert", "Exact(", "record ", "static {", "protected", "package ",
        "Math.sqrt", "Math.pow", "Throwable", "Error", "catch", "instanceof", "System.out", "hashCode", "toString",
        "nanoTime", "currentTimeMillis", "Random", "Thread", "native", "String.", "HashMap", "BigInteger",
    };

    public static void main(String[] args) throws IOException {
        constants();
        methods();
        othersAreHidden();
        classesInside();
        block();
        headings();
        text();
        Check.end();
    }

    private static void constants() {
        Check.due("NONE", -1, () -> Koebehall.NONE);
        Check.due("APART", 0, () -> Koebehall.APART);
        Check.due("TOUCH", 1, () -> Koebehall.TOUCH);
        Check.due("OVERLAP", 2, () -> Koebehall.OVERLAP);
    }

    private static void methods() {
        Set<String> due = new TreeSet<>(Arrays.asList(FACE));
        Set<String> got = new TreeSet<>();
        for (Method method : Koebehall.class.getDeclaredMethods()) {
            if (Modifier.isPublic(method.getModifiers())) {
                got.add(shapeOf(method));
            }
        }
        for (String shape : due) {
            Check.holds("the face has " + shape, () -> got.contains(shape));
        }
        for (String shape : got) {
            Check.holds("the document has " + shape, () -> due.contains(shape));
        }
    }

    private static String shapeOf(Method method) {
        String shape = method.getReturnType().getSimpleName() + " " + method.getName() + "("
                + namesOf(method.getParameterTypes()) + ")";
        String thrown = namesOf(method.getExceptionTypes());
        return thrown.isEmpty() ? shape : shape + " throws " + thrown;
    }

    private static String namesOf(Class<?>[] types) {
        List<String> names = new ArrayList<>();
        for (Class<?> type : types) {
            names.add(type.getSimpleName());
        }
        return String.join(", ", names);
    }

    private static void othersAreHidden() {
        Class<?> hall = Koebehall.class;
        Check.holds("the class is public and final",
                () -> Modifier.isPublic(hall.getModifiers()) && Modifier.isFinal(hall.getModifiers()));
        Set<String> constants = new TreeSet<>(Arrays.asList("NONE", "APART", "TOUCH", "OVERLAP"));
        for (Field field : hall.getDeclaredFields()) {
            int marks = field.getModifiers();
            if (constants.remove(field.getName())) {
                Check.holds(field.getName() + " is a public constant", () -> Modifier.isPublic(marks)
                        && Modifier.isStatic(marks) && Modifier.isFinal(marks) && field.getType() == int.class);
            } else {
                Check.holds(field.getName() + " is private", () -> Modifier.isPrivate(marks));
            }
        }
        Check.holds("all constants are there", () -> constants.isEmpty());
        Constructor<?>[] made = hall.getDeclaredConstructors();
        Check.holds("one public constructor without arguments", () -> made.length == 1
                && Modifier.isPublic(made[0].getModifiers()) && made[0].getParameterCount() == 0);
        for (Method method : hall.getDeclaredMethods()) {
            int marks = method.getModifiers();
            Check.holds(method.getName() + " is public or private",
                    () -> Modifier.isPublic(marks) || Modifier.isPrivate(marks));
        }
    }

    private static void classesInside() {
        Set<String> face = new TreeSet<>();
        for (Method method : Koebehall.class.getDeclaredMethods()) {
            if (Modifier.isPublic(method.getModifiers())) {
                face.add(method.getName());
            } else {
                Check.holds(method.getName() + " is a name of its own", () -> !face.contains(method.getName()));
            }
        }
        Class<?>[] inside = Koebehall.class.getDeclaredClasses();
        Check.holds("at most twelve classes", () -> inside.length < 12);
        for (Class<?> one : inside) {
            int marks = one.getModifiers();
            Check.holds(one.getName() + " is static and not public",
                    () -> Modifier.isStatic(marks) && !Modifier.isPublic(marks) && !Modifier.isProtected(marks));
            for (Method method : one.getDeclaredMethods()) {
                Check.holds(method.getName() + " is a name of its own", () -> !face.contains(method.getName()));
                Check.holds(method.getName() + " has at most seven parameters", () -> method.getParameterCount() <= 7);
            }
        }
    }

    private static String textOfTheClass() throws IOException {
        return Files.readString(Path.of("src/main/java/Koebehall.java"), StandardCharsets.ISO_8859_1);
    }

    // "The public face": the names of the arguments, too, and the order, are those of the block
    private static void block() throws IOException {
        String text = textOfTheClass().replaceAll("\\s+", " ");
        int at = 0;
        for (String line : BLOCK.split("\n")) {
            String due = line.strip().replaceAll(";$", "");
            if (due.equals("}")) {
                continue;
            }
            boolean isDeclared = due.endsWith("{") || due.contains("=");
            String body = isDeclared ? due : due + " {";
            int from = at;
            Check.holds("the class has, in the order of the document: " + due, () -> text.indexOf(body, from) >= 0);
            at = Math.max(at, text.indexOf(body, from) + 1);
        }
        int publics = text.split("\\bpublic ", -1).length - 1;
        Check.dueLong("as many public ones as the block has", BLOCK.split("\\bpublic ", -1).length - 1, publics);
    }

    // Terms: "Ahead of the calls `split`, `flip`, `corner`, `around`, `net` the interface says: ---- the net.", "Ahead of
    // the calls `disk`, `move`, `lie`, `pairs`, `draws` the interface says: ---- disks.", "Ahead of the calls `gasket`,
    // `turn`, `curvature`, `radius`, `root`, `count`, `countAnew`, `remainders` the interface says: ---- gaskets.", "Ahead
    // of the calls `ford`, `between` the interface says: ---- fractions.", "Ahead of the calls `tell`, `append`, `home`,
    // `word`, `image` the interface says: ---- words.", "Ahead of the calls `nodes`, `wire`, `trees`, `treesAnew`, `side`
    // the interface says: ---- networks."
    private static void headings() throws IOException {
        String text = textOfTheClass();
        int at = 0;
        for (String[] part : HEADED) {
            int heading = text.indexOf(part[0] + "\n", at);
            int behind = text.indexOf("// ---- ", heading + 1);
            int end = behind < 0 ? text.length() : behind;
            Check.holds(part[0] + " stands behind the one before", () -> heading >= 0);
            for (int call = 1; call < part.length; call++) {
                int found = text.indexOf(" " + part[call] + "(", text.indexOf("\n    public ", Math.max(heading, 0)));
                String what = part[call] + " stands below " + part[0];
                Check.holds(what, () -> found > heading && found < end);
            }
            at = heading + 1;
        }
    }

    private static void text() throws IOException {
        String text = textOfTheClass();
        for (String sign : NOT_IN_THE_TEXT) {
            Check.holdsNot("the text has " + sign, () -> text.contains(sign));
        }
        for (String line : text.split("\n")) {
            if (line.startsWith("import ")) {
                Check.holds(line, () -> Set.of("import java.util.ArrayList;", "import java.util.Arrays;",
                        "import java.util.List;").contains(line));
            }
        }
        for (int at = 0; at < text.length(); at++) {
            char sign = text.charAt(at);
            if (sign != '\n' && (sign < 32 || sign > 126)) {
                Check.dueLong("a sign of the text", 32, sign);
            }
        }
    }
}
