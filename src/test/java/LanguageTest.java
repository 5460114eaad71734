import java.io.File;
import java.lang.reflect.Array;
import java.lang.reflect.Field;
import java.lang.reflect.InvocationTargetException;
import java.lang.reflect.Method;
import java.lang.reflect.Modifier;
import java.util.ArrayList;
import java.util.Arrays;
import java.util.Collections;
import java.util.IdentityHashMap;
import java.util.List;
import java.util.Set;
import java.util.regex.Matcher;
import java.util.regex.Pattern;

/**
 * The rules of LANGUAGE.md, by their numbers. The class needs less than they leave, so that what is tested here is
 * at places narrower: no library but Math, Integer and Long, no while, no object made outside constructors.
 */
public final class LanguageTest {
    private static final Set<String> LIBRARY = Set.of("Math.max", "Integer.bitCount", "Integer.signum",
        "Long.bitCount");
    private static final Check check = new Check("LanguageTest");

    private final Source source = new Source();
    private final List<Class<?>> classes = new ArrayList<>();

    private LanguageTest() throws Exception {
        classes.add(ShotBoard.class);
        classes.addAll(Arrays.asList(ShotBoard.class.getDeclaredClasses()));
    }

    public static void main(String[] args) throws Exception {
        LanguageTest test = new LanguageTest();
        test.sourceIsRead();
        test.rule1Names();
        test.rule2Classes();
        test.rule3Types();
        test.rule4Library();
        test.rule5StaticFields();
        test.rule6Words();
        rule7NothingThrows();
        test.rule8NoRecursion();
        test.rule9Loops();
        test.rule11Lengths();
        test.rule12Objects();
        test.rule12Room();
        test.rule13Outside();
        check.end();
    }

    private void finds(String barred, String in) {
        Matcher found = Pattern.compile(barred).matcher(in);
        while (found.find()) {
            check.holds("the source has: " + found.group(), false);
        }
        check.holds("looked for " + barred, true);
    }

    /** If Source missed a method, the tests of lengths, depths and objects would not see it. */
    private void sourceIsRead() {
        check.on("the source, cut into methods");
        int compiled = 0;
        for (Class<?> one : classes) {
            for (Method method : one.getDeclaredMethods()) {
                compiled += method.isSynthetic() ? 0 : 1;
                check.holds(method + " was not found in the source", source.isOwn(method.getName()));
            }
        }
        int read = 0;
        for (Source.Method method : source.methods) {
            read += method.isMaker() ? 0 : 1;
        }
        check.due("methods", read, compiled);
        check.holds("code between methods: " + source.outside(), !source.outside().contains("return"));
    }

    private void rule1Names() {
        check.on("rule 1, no private method bears the name of a public one");
        for (Class<?> one : classes) {
            for (Method method : one.getDeclaredMethods()) {
                boolean isFace = one == ShotBoard.class && Modifier.isPublic(method.getModifiers());
                check.holds(method.toString(), isFace || !isFaceName(method.getName()));
            }
        }
    }

    private static boolean isFaceName(String name) {
        for (Method method : ShotBoard.class.getDeclaredMethods()) {
            if (Modifier.isPublic(method.getModifiers()) && method.getName().equals(name)) {
                return true;
            }
        }
        return false;
    }

    private void rule2Classes() throws Exception {
        check.on("rule 2, classes inside are static; none is local or anonymous; no lambda, no method reference");
        for (Class<?> one : classes) {
            check.holds(one + " is not static", one == ShotBoard.class || Modifier.isStatic(one.getModifiers()));
            check.holds(one + " has classes inside", one == ShotBoard.class || one.getDeclaredClasses().length == 0);
        }
        int compiled = 0;
        File where = new File(ShotBoard.class.getProtectionDomain().getCodeSource().getLocation().toURI());
        for (String file : where.list()) {
            compiled += file.startsWith("ShotBoard$") || file.equals("ShotBoard.class") ? 1 : 0;
        }
        check.due("compiled classes", compiled, classes.size());
        finds("->|::", source.code);
    }

    private void rule3Types() {
        check.on("rule 3, types");
        for (Class<?> one : classes) {
            for (Field field : one.getDeclaredFields()) {
                check.holds(field.toString(), isType(field.getType()));
            }
            for (Method method : one.getDeclaredMethods()) {
                check.holds(method.toString(), isType(method.getReturnType()));
                for (Class<?> type : method.getParameterTypes()) {
                    check.holds(method.toString(), isType(type));
                }
            }
        }
        finds("\\b(double|float|Object|var)\\b|\\[\\w*\\]\\[", source.code);
    }

    private boolean isType(Class<?> type) {
        Class<?> base = type.isArray() ? type.getComponentType() : type;
        return base.isPrimitive() || classes.contains(base);
    }

    private void rule4Library() {
        check.on("rule 4, the library");
        Matcher call = Pattern.compile("\\b([A-Z]\\w*)\\.(\\w+)").matcher(source.code);
        while (call.find()) {
            boolean isOwn = call.group(1).equals("Plane") && source.isOwn(call.group(2));
            check.holds(call.group(), isOwn || LIBRARY.contains(call.group()));
        }
        finds("\\b(import|package|java|\\w+Exact)\\b|\"", source.code);
        check.holds("signs beyond 127", source.text.chars().allMatch(c -> c < 128));
    }

    private void rule5StaticFields() {
        check.on("rule 5, static fields are final: constants of int");
        for (Class<?> one : classes) {
            for (Field field : one.getDeclaredFields()) {
                boolean isConstant = Modifier.isFinal(field.getModifiers()) && field.getType() == int.class;
                check.holds(field.toString(), !Modifier.isStatic(field.getModifiers()) || isConstant);
            }
        }
        finds("static\\s*\\{", source.code);
    }

    private void rule6Words() {
        check.on("rule 6, words that are barred, and casts");
        finds("\\b(throws?|try|catch|finally|synchronized|assert|instanceof|equals|hashCode|toString|getClass)\\b",
            source.code);
        finds("\\((int|long|short|byte|char|[A-Z]\\w*)(\\[\\])?\\) ?[\\w(-]", source.code);
    }

    /** All arguments of all calls out of these, in turn, on films that the calls go on changing. */
    private static void rule7NothingThrows() throws ReflectiveOperationException {
        check.on("rule 7, no call throws, for any arguments in any state");
        int[] numbers = {Integer.MIN_VALUE, -3131, -100, -1, 0, 1, 2, 5, 6, 7, 8, 9, 10, 12, 31, 32, 59, 60, 64, 100,
            1002, 1010, 3131, 3200, 65536, Integer.MAX_VALUE};
        for (List<Ask.Call> film : List.of(Films.empty(), Films.some(), Films.withoutPlan(), Films.full())) {
            for (Method method : ShotBoard.class.getMethods()) {
                if (method.getDeclaringClass() == ShotBoard.class) {
                    rowsOf(method, film, numbers);
                }
            }
        }
    }

    private static void rowsOf(Method method, List<Ask.Call> film, int[] numbers) throws ReflectiveOperationException {
        int rows = 1;
        for (int i = 0; i < method.getParameterCount(); i++) {
            rows *= numbers.length;
        }
        ShotBoard x = Ask.made(film);
        for (int row = 0; row < rows; row++) {
            Object[] told = new Object[method.getParameterCount()];
            for (int i = 0, rest = row; i < told.length; i++, rest /= numbers.length) {
                told[i] = numbers[rest % numbers.length];
            }
            x = row % 256 == 0 ? Ask.made(film) : x;
            try {
                method.invoke(x, told);
            } catch (InvocationTargetException thrown) {
                check.holds(method.getName() + Arrays.toString(told) + " threw " + thrown.getCause(), false);
            }
        }
        check.holds(method.getName() + " was tried", rows > 0);
    }

    private void rule8NoRecursion() {
        check.on("rules 8 and 11, no recursion, calls at most eight deep");
        for (Source.Method method : source.methods) {
            int depth = source.depth(method.name(), Set.of());
            check.holds(method.name() + " goes " + depth + " deep", depth >= 1 && depth <= 8);
        }
    }

    /** Each loop counts up or down by one against a bound, and its lines do not touch the counter. */
    private void rule9Loops() {
        check.on("rule 9, every loop has an end that can be seen");
        finds("\\b(while|do)\\b", source.code);
        Pattern head = Pattern.compile("( *)for \\(int (\\w+) = [^;]+; \\2 (<=?|>=) [^;]+; \\2(\\+\\+|--)\\) \\{");
        for (Source.Method method : source.methods) {
            for (int i = 0; i < method.lines().size(); i++) {
                String line = method.lines().get(i);
                Matcher loop = head.matcher(line);
                boolean counts = loop.matches() && loop.group(3).startsWith("<") == loop.group(4).equals("++");
                check.holds(line, !line.contains("for (") || counts);
                for (int j = i + 1; counts && !method.lines().get(j).equals(loop.group(1) + "}"); j++) {
                    String touched = "\\b" + loop.group(2) + "( [-+*/|&]?= |\\+\\+|--)";
                    check.holds(method.lines().get(j),
                        !Pattern.compile(touched).matcher(method.lines().get(j)).find());
                }
            }
        }
    }

    private void rule11Lengths() {
        check.on("rule 11, parameters, lengths, classes, fields");
        for (Source.Method method : source.methods) {
            check.holds(method.name() + " has too many parameters", method.parameters() <= 7);
            check.holds(method.name() + " is too long", method.lines().size() <= 60);
        }
        check.holds("too many classes", classes.size() <= 12);
        for (Class<?> one : classes) {
            int fields = 0;
            for (Field field : one.getDeclaredFields()) {
                fields += Modifier.isStatic(field.getModifiers()) ? 0 : 1;
            }
            check.holds(one + " has too many fields", fields <= 20);
        }
    }

    private void rule12Objects() {
        check.on("rule 12, objects are made with the object alone, and their lengths are constants");
        for (Source.Method method : source.methods) {
            check.holds(method.name() + " makes an object",
                method.isMaker() || !Pattern.compile("\\bnew\\b").matcher(method.body()).find());
            if (method.isMaker()) {
                finds("\\bthis\\b(?!\\.)", method.body());
            }
        }
        Matcher row = Pattern.compile("new \\w+\\[([^\\]]*)\\]").matcher(source.code);
        while (row.find()) {
            check.holds(row.group(), row.group(1).matches("[A-Z_ 0-9*+()]+"));
        }
    }

    /** All objects of a run share one room, so that one of them must be small, and stay as it was made. */
    private void rule12Room() throws ReflectiveOperationException {
        check.on("rule 12, an object's room is small, and calls add nothing to it");
        int[] fresh = room(new ShotBoard());
        ShotBoard x = Ask.made(Films.full());
        Ask.answers(x, Ask.all());
        int[] full = room(x);
        check.holds("objects: " + fresh[0] + ", fields and elements: " + fresh[1], fresh[0] <= 50 && fresh[1] <= 1000);
        check.due("objects after many calls", full[0], fresh[0]);
        check.due("fields and elements after many calls", full[1], fresh[1]);
    }

    /** How many objects and arrays there are, and how many fields and elements these have. */
    private int[] room(Object first) throws ReflectiveOperationException {
        Set<Object> seen = Collections.newSetFromMap(new IdentityHashMap<>());
        List<Object> all = new ArrayList<>(List.of(first));
        int cells = 0;
        for (int i = 0; i < all.size(); i++) {
            Object one = all.get(i);
            if (one.getClass().isArray()) {
                cells += Array.getLength(one);
                for (int j = 0; one instanceof Object[] row && j < row.length; j++) {
                    come(row[j], seen, all);
                }
                continue;
            }
            for (Field field : one.getClass().getDeclaredFields()) {
                if (!Modifier.isStatic(field.getModifiers())) {
                    cells++;
                    field.setAccessible(true);
                    come(field.getType().isPrimitive() ? null : field.get(one), seen, all);
                }
            }
        }
        return new int[] {all.size(), cells};
    }

    private static void come(Object one, Set<Object> seen, List<Object> all) {
        if (one != null && seen.add(one)) {
            all.add(one);
        }
    }

    private void rule13Outside() {
        check.on("rule 13, no clock, randomness, file, network, thread or environment");
        finds("\\b(System|Thread|Runtime|Random|random|File|Files|Path|nanoTime|currentTimeMillis|native|volatile)\\b",
            source.code);
    }
}
