import java.lang.reflect.Constructor;
import java.lang.reflect.Executable;
import java.lang.reflect.Field;
import java.lang.reflect.Method;
import java.lang.reflect.Modifier;
import java.util.ArrayList;
import java.util.Arrays;
import java.util.List;
import java.util.TreeSet;

/** The public face: every constant, the constructor and every method, and nothing else that is not private. */
final class FaceTest {
    private static final String PLACE = "IndexOutOfBoundsException";
    private static final String ARGUMENT = "IllegalArgumentException";
    private static final String STATE = "IllegalStateException";

    private FaceTest() {
    }

    static void run(Checks checks, Document document, String source) throws IllegalAccessException {
        declared(checks, document, source);
        constants(checks);
        methods(checks);
        nestedClasses(checks);
        newObject(checks);
    }

    /** Each line of the document's face stands in the class, with the names of its arguments and its throws clause. */
    private static void declared(Checks checks, Document document, String source) {
        String spaced = source.replaceAll("\\s+", " ");
        List<String> lines = document.declared();
        checks.due("lines of the face: the class, 3 of constants, the constructor and 29 methods", 34, lines.size());
        for (String line : lines) {
            String due = line.replaceFirst("\\)([^)]*);$", ")$1 {");
            checks.isTrue("that the class declares " + due, spaced.contains(" " + due));
        }
    }

    private static void constants(Checks checks) throws IllegalAccessException {
        List<String> got = new ArrayList<>();
        for (Field field : MarbleBench.class.getDeclaredFields()) {
            int signs = field.getModifiers();
            if (!Modifier.isPrivate(signs)) {
                got.add(Modifier.toString(signs) + " " + field.getName() + " " + field.getInt(null));
            }
            checks.isTrue(field + " is final, if it is static", !Modifier.isStatic(signs) || Modifier.isFinal(signs));
        }
        List<String> due = new ArrayList<>();
        for (String one : List.of("NONE -1", "THROUGH 0", "ALONG 1", "BACK 2", "UP 3", "DOWN 4",
                "TIGHT 0", "HOLLOW 1", "FLEX 2")) {
            due.add("public static final " + one);
        }
        checks.isTrue("constants " + got, new TreeSet<>(got).equals(new TreeSet<>(due)));
    }

    private static void methods(Checks checks) {
        List<String> due = List.of(
                told("int", "drop", "int int int int", PLACE, ARGUMENT),
                told("int", "comb", "boolean int int", PLACE, ARGUMENT),
                told("int", "lift", "", STATE),
                told("int", "clean", ""),
                told("int", "cellAt", "int int int", PLACE, ARGUMENT),
                told("int", "printAt", "int int int", PLACE),
                told("int", "count", "int int", PLACE, ARGUMENT),
                told("int", "pageAt", "int boolean int int", ARGUMENT),
                told("int", "placeOf", "int int", ARGUMENT),
                told("int", "book", "int int int int boolean", ARGUMENT, STATE),
                told("int", "sew", "int int", PLACE, ARGUMENT, STATE),
                told("int", "unsew", "int int", PLACE, ARGUMENT, STATE),
                told("int", "ofThread", "int int", PLACE, ARGUMENT),
                told("int", "stitches", "int int int", PLACE),
                told("boolean", "isHeld", "int int", PLACE),
                told("int", "back", "int int", PLACE, ARGUMENT),
                told("int", "swelling", "int", PLACE),
                told("int", "strain", "int int", PLACE, ARGUMENT),
                told("int", "worst", "int", PLACE),
                told("int", "opens", "int int", PLACE, ARGUMENT),
                told("int", "skin", "int", ARGUMENT, STATE),
                told("int", "pare", "int int int int int int", PLACE, ARGUMENT, STATE),
                told("int", "thickAt", "int int int", PLACE),
                told("int", "tooThick", "int", PLACE),
                told("int", "repair", "int int", PLACE, ARGUMENT, STATE),
                told("int", "undo", "int", PLACE, STATE),
                told("int", "speak", "int int int int", PLACE, ARGUMENT, STATE),
                told("int", "year", "int boolean", PLACE),
                told("int", "yearAnew", "int boolean", PLACE));
        TreeSet<String> got = new TreeSet<>();
        TreeSet<String> publicNames = new TreeSet<>();
        for (Method method : MarbleBench.class.getDeclaredMethods()) {
            if (!Modifier.isPrivate(method.getModifiers()) && !method.isSynthetic()) {
                got.add(Modifier.toString(method.getModifiers()) + " " + told(method));
                publicNames.add(method.getName());
            }
        }
        TreeSet<String> wanted = new TreeSet<>();
        for (String one : due) {
            wanted.add("public " + one);
        }
        checks.isTrue("methods " + got, got.equals(wanted));
        for (Method method : MarbleBench.class.getDeclaredMethods()) {
            checks.isTrue(method + " bears a name of its own",
                    !Modifier.isPrivate(method.getModifiers()) || !publicNames.contains(method.getName()));
        }
    }

    private static String told(String type, String name, String arguments, String... exceptions) {
        return type + " " + name + "(" + arguments + ") " + String.join(" ", exceptions);
    }

    private static String told(Method method) {
        return told(method.getReturnType().getSimpleName(), method.getName(), names(method.getParameterTypes()),
                exceptions(method));
    }

    private static String[] exceptions(Executable called) {
        return Arrays.stream(called.getExceptionTypes()).map(Class::getSimpleName).toArray(String[]::new);
    }

    private static String names(Class<?>[] types) {
        return String.join(" ", Arrays.stream(types).map(Class::getSimpleName).toArray(String[]::new));
    }

    private static void nestedClasses(Checks checks) {
        Class<?> face = MarbleBench.class;
        checks.isTrue("the class is public and final", Modifier.toString(face.getModifiers()).equals("public final"));
        Constructor<?>[] constructors = face.getDeclaredConstructors();
        checks.due("constructors", 1, constructors.length);
        checks.isTrue("the constructor is public", Modifier.isPublic(constructors[0].getModifiers()));
        checks.due("arguments of the constructor", 0, constructors[0].getParameterCount());
        for (Class<?> inside : face.getDeclaredClasses()) {
            int signs = inside.getModifiers();
            checks.isTrue(inside + " is static", Modifier.isStatic(signs));
            checks.isTrue(inside + " is private or package-visible",
                    !Modifier.isPublic(signs) && !Modifier.isProtected(signs));
        }
    }

    /** Promise 1. */
    private static void newObject(Checks checks) {
        Checks.Setup nothing = bench -> { };
        MarbleBench bench = Checks.made(nothing);
        for (int cell = 0; cell < 64; cell++) {
            checks.due("colour of a new bath", MarbleBench.NONE, bench.cellAt(cell % 8, cell / 8, 0));
            checks.due("strength of a new bath", 0, bench.cellAt(cell % 8, cell / 8, 1));
        }
        checks.due("clean of a new bath", 0, bench.clean());
        checks.refuses("print 0 of a new bench", Checks.PLACE, nothing, b -> b.count(0, 0));
        checks.refuses("book 0 of a new bench", Checks.PLACE, nothing, b -> b.swelling(0));
        checks.refuses("skin 0 of a new bench", Checks.PLACE, nothing, b -> b.tooThick(0));
        checks.due("first print", 0, bench.lift());
        checks.due("first book", 0, bench.book(1, 2, 3, 1, true));
        checks.due("first skin", 0, bench.skin(8));
        MarbleBench other = new MarbleBench();
        bench.drop(0, 0, 0, 64);
        checks.due("another bench's bath", 0, other.clean());
    }
}
