import java.util.HashSet;
import java.util.Set;

/** Counts answers that are not the ones that are due, prints them, and ends a test. */
final class Check {
    private final String name;
    private final Set<String> sentences = new HashSet<>();
    private String sentence = "";
    private int asked;
    private int wrong;

    Check(String name) {
        this.name = name;
    }

    /** What follows tests this sentence of the document; it stands ahead of each wrong answer that is printed. */
    void on(String promise) {
        sentence = promise + ": ";
        sentences.add(promise);
    }

    void due(String call, int got, int want) {
        asked++;
        if (got != want) {
            wrong++;
            System.out.println(name + ": " + sentence + call + " answered " + got + ", due is " + want);
        }
    }

    void holds(String what, boolean isSo) {
        asked++;
        if (!isSo) {
            wrong++;
            System.out.println(name + ": " + sentence + what);
        }
    }

    boolean hasWrong() {
        return wrong != 0;
    }

    void end() {
        String told = sentences.isEmpty() ? "" : sentences.size() + " sentences, ";
        System.out.println(name + ": " + told + asked + " answers, " + wrong + " not as due");
        if (wrong != 0) {
            System.exit(1);
        }
    }
}
