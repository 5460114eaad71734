import java.lang.reflect.Constructor;
import java.lang.reflect.Field;
import java.lang.reflect.Method;
import java.lang.reflect.Modifier;
import java.nio.file.Files;
import java.nio.file.Path;
import java.util.Set;
import java.util.TreeSet;
import java.util.regex.Matcher;
import java.util.regex.Pattern;

/** The public face is the document's and nothing more, and the source keeps away from what LANGUAGE.md bars. */
public final class FaceTest {
    private static final Set<String> METHODS = Set.of("person/1", "step/3", "wall/2", "open/0", "camera/2", "board/4",
        "drop/0", "rate/1", "where/2", "hidden/3", "sees/4", "size/3", "views/2", "gives/2", "why/2", "side/2",
        "length/1", "fewest/0", "plan/1", "swings/0", "order/1", "crossings/0", "list/1", "run/0", "frame/1",
        "count/1");
    private static final String BARRED = "\\b(throw|try|catch|synchronized|assert|import|package|protected|Object"
        + "|double|float|System|Thread|Random|\\w+Exact|hashCode|toString|equals)\\b|->|::";
    private static final Check check = new Check("FaceTest");

    private FaceTest() {
    }

    public static void main(String[] args) throws Exception {
        check.holds("the class is public and final",
            Modifier.isPublic(ShotBoard.class.getModifiers()) && Modifier.isFinal(ShotBoard.class.getModifiers()));
        constants();
        methods();
        constructors();
        classesInside();
        source();
        check.end();
    }

    private static void constants() throws IllegalAccessException {
        check.due("NONE", ShotBoard.NONE, -1);
        check.due("FULL", ShotBoard.FULL, -2);
        check.due("STATE", ShotBoard.STATE, -3);
        Set<String> open = new TreeSet<>();
        for (Field field : ShotBoard.class.getDeclaredFields()) {
            if (!Modifier.isPrivate(field.getModifiers())) {
                open.add(field.getName());
            }
            if (Modifier.isStatic(field.getModifiers())) {
                check.holds(field + " is final", Modifier.isFinal(field.getModifiers()));
            }
        }
        check.holds("open fields: " + open, open.equals(Set.of("NONE", "FULL", "STATE")));
    }

    private static void methods() {
        Set<String> open = new TreeSet<>();
        Set<String> names = new TreeSet<>();
        for (String method : METHODS) {
            names.add(method.substring(0, method.indexOf('/')));
        }
        for (Method method : ShotBoard.class.getDeclaredMethods()) {
            if (Modifier.isPrivate(method.getModifiers())) {
                check.holds(method + " bears a public name", !names.contains(method.getName()));
            } else {
                check.holds(method + " is public", Modifier.isPublic(method.getModifiers()));
                check.holds(method + " answers an int", method.getReturnType() == int.class);
                open.add(method.getName() + "/" + method.getParameterCount());
            }
        }
        check.holds("open methods: " + open, open.equals(METHODS));
    }

    private static void constructors() {
        Constructor<?>[] all = ShotBoard.class.getDeclaredConstructors();
        check.due("constructors", all.length, 1);
        check.holds("the constructor is public and takes nothing",
            Modifier.isPublic(all[0].getModifiers()) && all[0].getParameterCount() == 0);
    }

    private static void classesInside() {
        Class<?>[] inside = ShotBoard.class.getDeclaredClasses();
        check.holds("at most twelve classes", inside.length <= 12);
        for (Class<?> one : inside) {
            int is = one.getModifiers();
            check.holds(one + " is static and not public", Modifier.isStatic(is) && !Modifier.isPublic(is));
            check.holds(one + " has at most twenty fields", one.getDeclaredFields().length <= 20);
        }
    }

    private static void source() throws Exception {
        String text = Files.readString(Path.of("src/main/java/ShotBoard.java"));
        String code = text.replaceAll("(?s)/\\*.*?\\*/", "").replaceAll("//[^\n]*", "");
        Matcher found = Pattern.compile(BARRED).matcher(code);
        while (found.find()) {
            check.holds("the source has: " + found.group(), false);
        }
        check.holds("the source has signs beyond 127", code.chars().allMatch(c -> c < 128));
    }
}
