import java.lang.reflect.Constructor;
import java.lang.reflect.Field;
import java.lang.reflect.Method;
import java.lang.reflect.Modifier;
import java.nio.file.Files;
import java.nio.file.Path;
import java.util.ArrayList;
import java.util.List;
import java.util.Set;
import java.util.TreeSet;

/** The public face is the document's, line by line, and nothing more. */
public final class FaceTest {
    private static final Set<String> METHODS = Set.of("person/1", "step/3", "wall/2", "open/0", "camera/2", "board/4",
        "drop/0", "rate/1", "where/2", "hidden/3", "sees/4", "size/3", "views/2", "gives/2", "why/2", "side/2",
        "length/1", "fewest/0", "plan/1", "swings/0", "order/1", "crossings/0", "list/1", "run/0", "frame/1",
        "count/1");
    private static final Check check = new Check("FaceTest");

    private FaceTest() {
    }

    public static void main(String[] args) throws Exception {
        check.holds("the class is public and final",
            Modifier.isPublic(ShotBoard.class.getModifiers()) && Modifier.isFinal(ShotBoard.class.getModifiers()));
        check.holds("the class has no package", ShotBoard.class.getPackageName().isEmpty());
        check.holds("the class stands by itself", ShotBoard.class.getSuperclass() == Object.class
            && ShotBoard.class.getInterfaces().length == 0);
        constants();
        methods();
        constructors();
        classesInside();
        linesOfTheDocument();
        check.end();
    }

    private static void constants() throws IllegalAccessException {
        check.due("NONE", ShotBoard.NONE, -1);
        check.due("FULL", ShotBoard.FULL, -2);
        check.due("STATE", ShotBoard.STATE, -3);
        Set<String> open = new TreeSet<>();
        for (Field field : ShotBoard.class.getDeclaredFields()) {
            if (!Modifier.isPrivate(field.getModifiers())) {
                open.add(field.getName());
                check.due(field + ": public, static and final", field.getModifiers(),
                    Modifier.PUBLIC | Modifier.STATIC | Modifier.FINAL);
                check.holds(field + " is an int", field.getType() == int.class);
            }
        }
        check.holds("open fields: " + open, open.equals(Set.of("NONE", "FULL", "STATE")));
    }

    private static void methods() {
        Set<String> open = new TreeSet<>();
        for (Method method : ShotBoard.class.getDeclaredMethods()) {
            if (!Modifier.isPrivate(method.getModifiers())) {
                check.due(method + ": public and nothing else", method.getModifiers(), Modifier.PUBLIC);
                check.holds(method + " answers an int", method.getReturnType() == int.class);
                for (Class<?> type : method.getParameterTypes()) {
                    check.holds(method + " takes ints", type == int.class);
                }
                open.add(method.getName() + "/" + method.getParameterCount());
            }
        }
        check.holds("open methods: " + open, open.equals(METHODS));
    }

    private static void constructors() {
        Constructor<?>[] all = ShotBoard.class.getDeclaredConstructors();
        check.due("constructors", all.length, 1);
        check.holds("the constructor is public and takes nothing",
            Modifier.isPublic(all[0].getModifiers()) && all[0].getParameterCount() == 0);
    }

    private static void classesInside() {
        for (Class<?> one : ShotBoard.class.getDeclaredClasses()) {
            int is = one.getModifiers();
            check.holds(one + " is static and not public",
                Modifier.isStatic(is) && !Modifier.isPublic(is) && !Modifier.isProtected(is));
        }
    }

    /** Each line of the document's face stands in the source, and each public line of the source in the document. */
    private static void linesOfTheDocument() throws Exception {
        List<String> document = publicLines(Files.readString(Path.of("../shared/DOC.md")));
        List<String> source = publicLines(Files.readString(Path.of("src/main/java/ShotBoard.java")));
        check.due("lines of the document's face", document.size(), 2 + 1 + METHODS.size());
        check.holds("the source's face: " + source, source.equals(document));
    }

    private static List<String> publicLines(String text) {
        List<String> lines = new ArrayList<>();
        for (String line : text.split("\n")) {
            if (line.strip().startsWith("public ")) {
                lines.add(line.strip().replaceAll("( \\{|;)$", ""));
            }
        }
        return lines;
    }
}
