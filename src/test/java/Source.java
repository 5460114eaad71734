import java.io.IOException;
import java.nio.file.Files;
import java.nio.file.Path;
import java.util.ArrayList;
import java.util.HashSet;
import java.util.List;
import java.util.Set;
import java.util.regex.Matcher;
import java.util.regex.Pattern;

/** The class's source, without its comments, cut into methods. It counts on the file's own even indentation. */
final class Source {
    private static final Pattern HEAD = Pattern.compile(
        "( +)(?:(?:public|private|static|final|abstract) )*([\\w\\[\\]<>]+ )?(\\w+)\\(([^()]*)\\) \\{");
    private static final Pattern CALLED = Pattern.compile("(new )?\\b(\\w+)\\(");

    /** A method or, where isMaker, a constructor; lines has its first and last line, too. */
    record Method(String name, boolean isMaker, int parameters, List<String> lines) {
        String body() {
            return String.join("\n", lines.subList(1, lines.size()));
        }
    }

    final String text;
    final String code;
    final List<Method> methods = new ArrayList<>();

    Source() throws IOException {
        text = Files.readString(Path.of("src/main/java/ShotBoard.java"));
        code = text.replaceAll("(?s)/\\*.*?\\*/", "").replaceAll("//[^\n]*", "");
        String[] lines = code.split("\n");
        for (int i = 0; i < lines.length; i++) {
            Matcher head = HEAD.matcher(lines[i]);
            boolean isMethod = head.matches() && !Set.of("if", "for", "while", "switch").contains(head.group(3));
            if (isMethod) {
                int parameters = head.group(4).isEmpty() ? 0 : head.group(4).split(",").length;
                List<String> own = linesOf(lines, i, head.group(1) + "}");
                methods.add(new Method(head.group(3), head.group(2) == null, parameters, own));
            }
        }
    }

    private static List<String> linesOf(String[] lines, int first, String end) {
        List<String> own = new ArrayList<>();
        for (int i = first; i < lines.length; i++) {
            own.add(lines[i]);
            if (lines[i].equals(end)) {
                return own;
            }
        }
        throw new IllegalStateException("no end of " + lines[first]);
    }

    /** The code outside of all methods: fields, heads of classes. */
    String outside() {
        String rest = code;
        for (Method method : methods) {
            rest = rest.replace(String.join("\n", method.lines), "");
        }
        return rest;
    }

    /** How deep calls go from this method on, itself counted; methods of one name count as one. -1: in a circle. */
    int depth(String name, Set<String> open) {
        if (open.contains(name)) {
            return -1;
        }
        Set<String> within = new HashSet<>(open);
        within.add(name);
        int deepest = 0;
        for (String called : calledBy(name)) {
            int depth = depth(called, within);
            if (depth < 0) {
                return -1;
            }
            deepest = Math.max(deepest, depth);
        }
        return deepest + 1;
    }

    private Set<String> calledBy(String name) {
        Set<String> all = new HashSet<>();
        for (Method method : methods) {
            Matcher call = CALLED.matcher(method.name.equals(name) ? method.body() : "");
            while (call.find()) {
                if (isOwn(call.group(2))) {
                    all.add(call.group(2));
                }
            }
        }
        return all;
    }

    boolean isOwn(String name) {
        for (Method method : methods) {
            if (method.name.equals(name)) {
                return true;
            }
        }
        return false;
    }
}
