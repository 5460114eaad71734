import java.util.ArrayList;
import java.util.List;

/** A call with its arguments, how it is told, and lists of such calls that several tests make. */
record Ask(String told, Call call) {
    interface Call {
        int of(ShotBoard x);
    }

    static ShotBoard made(List<Call> calls) {
        ShotBoard x = new ShotBoard();
        for (Call call : calls) {
            call.of(x);
        }
        return x;
    }

    /** What an object answers to all these, in order. */
    static int[] answers(ShotBoard x, List<Ask> asks) {
        int[] answers = new int[asks.size()];
        for (int i = 0; i < answers.length; i++) {
            answers[i] = asks.get(i).call.of(x);
        }
        return answers;
    }

    /** Calls that change nothing; together they tell all that can be asked, but for THE LIST's cameras and the rate. */
    static List<Ask> all() {
        List<Ask> asks = new ArrayList<>();
        asksOfPersons(asks);
        asksOfBoards(asks);
        asksOfPlans(asks);
        return asks;
    }

    private static void add(List<Ask> asks, String told, Call call) {
        asks.add(new Ask(told, call));
    }

    private static void asksOfPersons(List<Ask> asks) {
        for (int n = 0; n <= 5; n++) {
            int p = n;
            for (int tick : new int[] {0, 1, 7, 30, 59}) {
                add(asks, "where(" + p + ", " + tick + ")", x -> x.where(p, tick));
            }
            add(asks, "hidden(" + p + ", 7, 1204)", x -> x.hidden(p, 7, 1204));
            add(asks, "hidden(" + p + ", 59, 3120)", x -> x.hidden(p, 59, 3120));
            add(asks, "views(" + p + ", 30)", x -> x.views(p, 30));
            for (int c : new int[] {0, 2, 9}) {
                add(asks, "sees(" + c + ", 0, " + p + ", 7)", x -> x.sees(c, 0, p, 7));
                add(asks, "size(" + c + ", " + p + ", 59)", x -> x.size(c, p, 59));
            }
        }
    }

    private static void asksOfBoards(List<Ask> asks) {
        for (int n = 0; n <= 7; n++) {
            int b = n;
            add(asks, "length(" + b + ")", x -> x.length(b));
            add(asks, "gives(0, " + b + ")", x -> x.gives(0, b));
            for (int c = 0; c <= 9; c++) {
                int camera = c;
                add(asks, "why(" + c + ", " + b + ")", x -> x.why(camera, b));
            }
            add(asks, "side(0, " + b + ")", x -> x.side(0, b));
            add(asks, "side(9, " + b + ")", x -> x.side(9, b));
        }
    }

    private static void asksOfPlans(List<Ask> asks) {
        add(asks, "fewest()", x -> x.fewest());
        add(asks, "swings()", x -> x.swings());
        add(asks, "run()", x -> x.run());
        for (int n = 0; n <= 8; n++) {
            int i = n;
            add(asks, "plan(" + i + ")", x -> x.plan(i));
            add(asks, "order(" + i + ")", x -> x.order(i));
            add(asks, "frame(" + 7 * i + ")", x -> x.frame(7 * i));
            add(asks, "count(" + i + ")", x -> x.count(i));
        }
    }

    /** Calls that change something, with an answer that tells of what was there before. */
    static List<Ask> changes() {
        List<Ask> asks = new ArrayList<>();
        add(asks, "person(2222)", x -> x.person(2222));
        for (int n = 0; n <= 5; n++) {
            int p = n;
            add(asks, "step(" + p + ", 10, 2323)", x -> x.step(p, 10, 2323));
        }
        add(asks, "wall(2929, 3030)", x -> x.wall(2929, 3030));
        add(asks, "open()", x -> x.open());
        add(asks, "camera(1717, 3)", x -> x.camera(1717, 3));
        add(asks, "board(0, 7, 3, 9)", x -> x.board(0, 7, 3, 9));
        add(asks, "drop()", x -> x.drop());
        add(asks, "rate(19)", x -> x.rate(19));
        add(asks, "crossings()", x -> x.crossings());
        add(asks, "list(1)", x -> x.list(1));
        return asks;
    }
}
