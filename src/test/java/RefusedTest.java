import java.util.ArrayList;
import java.util.List;

/**
 * "What is refused changes nothing", for promises 2 to 27: after each refused call the object answers all other
 * calls as one that is made in the same way and did not have that call.
 */
public final class RefusedTest {
    private static final int NONE = -1, FULL = -2, STATE = -3, NO_PLAN = -5, NO_SIDE = -9;
    private static final int LEAST = Sweep.LEAST, MOST = Sweep.MOST;
    private static final Check check = new Check("RefusedTest");
    private static final List<Ask> ALL = Ask.all();
    private static final List<Ask> CHANGES = Ask.changes();

    private RefusedTest() {
    }

    public static void main(String[] args) {
        filmsAreWhatTheyShouldBe();
        refusedEverywhere("nothing", Films.empty());
        refusedEverywhere("some", Films.some());
        refusedEverywhere("no plan", Films.withoutPlan());
        refusedEverywhere("full", Films.full());
        refusedWhereNothingIs();
        refusedWhereAllIsFull();
        noPlanChangesNothing();
        promise23ChangesTheListAlone();
        askingChangesNothing();
        check.end();
    }

    private static void filmsAreWhatTheyShouldBe() {
        check.on("the films of this test");
        check.due("some: fewest()", Ask.made(Films.some()).fewest(), 2);
        check.due("some: crossings()", Ask.made(Films.some()).crossings(), 1);
        check.due("no plan: fewest()", Ask.made(Films.withoutPlan()).fewest(), NO_PLAN);
        check.due("full: fewest()", Ask.made(Films.full()).fewest(), 2);
        check.due("full: crossings()", Ask.made(Films.full()).crossings(), 1);
        int[] most = {6, 12, 10, 8, 8};
        for (int what = 0; what <= 4; what++) {
            check.due("full: count(" + what + ")", Ask.made(Films.full()).count(what), most[what]);
        }
    }

    /** What an object answers, kept as it is after the film, and after the film and fewest() (which may be kept). */
    private static void refused(String promise, List<Ask.Call> film, String told, int want, Ask.Call call) {
        check.on(promise + ", what is refused changes nothing");
        ShotBoard x = Ask.made(film);
        check.due(told, call.of(x), want);
        same(told, Ask.answers(x, ALL), Ask.answers(Ask.made(film), ALL));
        ShotBoard asked = Ask.made(film);
        asked.fewest();
        check.due(told + " after fewest()", call.of(asked), want);
        same(told + " after fewest()", Ask.answers(asked, ALL), Ask.answers(Ask.made(film), ALL));
        for (Ask change : CHANGES) {
            ShotBoard without = Ask.made(film);
            int before = change.call().of(without);
            ShotBoard with = Ask.made(film);
            call.of(with);
            check.due(change.told() + " after " + told, change.call().of(with), before);
            check.due("count(4) after that", with.count(4), without.count(4));
            check.due("run() after that", with.run(), without.run());
            check.due("hidden(0, 7, 3120) after that", with.hidden(0, 7, 3120), without.hidden(0, 7, 3120));
        }
    }

    private static void same(String told, int[] got, int[] want) {
        for (int i = 0; i < want.length; i++) {
            check.due(ALL.get(i).told() + " after " + told, got[i], want[i]);
        }
    }

    private static void refusedEverywhere(String name, List<Ask.Call> film) {
        for (int place : new int[] {-1, 32, 3132, 3200, LEAST, MOST}) {
            refused("promise 2, " + name, film, "person(" + place + ")", NONE, x -> x.person(place));
            refused("promise 3, " + name, film, "step(0, 7, " + place + ")", NONE, x -> x.step(0, 7, place));
            refused("promise 4, " + name, film, "wall(" + place + ", 0)", NONE, x -> x.wall(place, 0));
            refused("promise 4, " + name, film, "wall(3131, " + place + ")", NONE, x -> x.wall(3131, place));
            refused("promise 6, " + name, film, "camera(" + place + ", 0)", NONE, x -> x.camera(place, 0));
            refused("promise 11, " + name, film, "hidden(0, 0, " + place + ")", NONE, x -> x.hidden(0, 0, place));
        }
        for (int no : new int[] {-1, 60, LEAST, MOST}) {
            refusedNumber(name, film, no);
        }
        refused("promise 3, " + name, film, "step(0, 0, 5)", NONE, x -> x.step(0, 0, 5));
        refused("promise 4, " + name, film, "wall(5, 5)", NONE, x -> x.wall(5, 5));
        refused("promise 6, " + name, film, "camera(0, 4)", NONE, x -> x.camera(0, 4));
        int[] who = {-1, 64, 600, 1000, 1001, 3000, LEAST, MOST};
        for (int one : who) {
            refused("promise 7, " + name, film, "board(" + one + ", ..)", NONE, x -> x.board(one, 7, 0, 0));
        }
        refused("promise 7, " + name, film, "board(0, 0, 0, 0)", NONE, x -> x.board(0, 0, 0, 0));
        refused("promise 7, " + name, film, "board(0, 8, 0, 0)", NONE, x -> x.board(0, 8, 0, 0));
        refused("promise 7, " + name, film, "board(0, 7, 100, 0)", NONE, x -> x.board(0, 7, 100, 0));
        refused("promise 7, " + name, film, "board(0, 7, 0, 201)", NONE, x -> x.board(0, 7, 0, 201));
        refused("promise 9, " + name, film, "rate(0)", NONE, x -> x.rate(0));
        refused("promise 9, " + name, film, "rate(21)", NONE, x -> x.rate(21));
        refused("promise 20, " + name, film, "plan(8)", NONE, x -> x.plan(8));
        refused("promise 22, " + name, film, "order(8)", NONE, x -> x.order(8));
        refused("promise 24, " + name, film, "list(10)", NONE, x -> x.list(10));
        refused("promise 27, " + name, film, "count(5)", NONE, x -> x.count(5));
    }

    /** A number that is no person, no tick but 0, no camera, no board, and so on. */
    private static void refusedNumber(String name, List<Ask.Call> film, int no) {
        List<Ask> calls = new ArrayList<>();
        calls.add(new Ask("promise 3", x -> x.step(no, 7, 5)));
        calls.add(new Ask("promise 3", x -> x.step(0, no, 5)));
        calls.add(new Ask("promise 6", x -> x.camera(0, no)));
        calls.add(new Ask("promise 7", x -> x.board(0, no, 0, 0)));
        calls.add(new Ask("promise 7", x -> x.board(0, 7, no, 0)));
        calls.add(new Ask("promise 9", x -> x.rate(no)));
        calls.add(new Ask("promise 10", x -> x.where(no, 0)));
        calls.add(new Ask("promise 10", x -> x.where(0, no)));
        calls.add(new Ask("promise 11", x -> x.hidden(no, 0, 0)));
        calls.add(new Ask("promise 11", x -> x.hidden(0, no, 0)));
        calls.add(new Ask("promise 12", x -> x.sees(no, 0, 0, 0)));
        calls.add(new Ask("promise 12", x -> x.sees(0, no, 0, 0)));
        calls.add(new Ask("promise 12", x -> x.sees(0, 0, no, 0)));
        calls.add(new Ask("promise 12", x -> x.sees(0, 0, 0, no)));
        calls.add(new Ask("promise 13", x -> x.size(no, 0, 0)));
        calls.add(new Ask("promise 13", x -> x.size(0, no, 0)));
        calls.add(new Ask("promise 13", x -> x.size(0, 0, no)));
        calls.add(new Ask("promise 14", x -> x.views(no, 0)));
        calls.add(new Ask("promise 14", x -> x.views(0, no)));
        calls.add(new Ask("promise 15", x -> x.gives(no, 0)));
        calls.add(new Ask("promise 15", x -> x.gives(0, no)));
        calls.add(new Ask("promise 16", x -> x.why(no, 0)));
        calls.add(new Ask("promise 16", x -> x.why(0, no)));
        calls.add(new Ask("promise 18", x -> x.length(no)));
        calls.add(new Ask("promise 20", x -> x.plan(no)));
        calls.add(new Ask("promise 22", x -> x.order(no)));
        calls.add(new Ask("promise 24", x -> x.list(no)));
        calls.add(new Ask("promise 27", x -> x.count(no)));
        for (int i = 0; i < calls.size(); i++) {
            Ask one = calls.get(i);
            refused(one.told() + ", " + name, film, "wrong number " + no + " (" + i + ")", NONE, one.call());
        }
        refused("promise 17, " + name, film, "side(" + no + ", 0)", NO_SIDE, x -> x.side(no, 0));
        refused("promise 17, " + name, film, "side(0, " + no + ")", NO_SIDE, x -> x.side(0, no));
        int frame = no < 0 ? no : MOST - 60 + no % 60;
        refused("promise 26, " + name, film, "frame(" + frame + ")", NONE, x -> x.frame(frame));
        int words = no < 0 ? no : no == 60 ? 201 : no;
        refused("promise 7, " + name, film, "board(0, 7, 0, " + words + ")", NONE, x -> x.board(0, 7, 0, words));
    }

    private static void refusedWhereNothingIs() {
        List<Ask.Call> film = Films.empty();
        refused("promise 3, nobody", film, "step(0, 1, 5)", NONE, x -> x.step(0, 1, 5));
        refused("promise 5, no wall", film, "open()", STATE, x -> x.open());
        refused("promise 7, nobody", film, "board(0, 7, 0, 0)", NONE, x -> x.board(0, 7, 0, 0));
        refused("promise 8, no board", film, "drop()", STATE, x -> x.drop());
        refused("promise 24, no camera", film, "list(0)", NONE, x -> x.list(0));
    }

    private static void refusedWhereAllIsFull() {
        List<Ask.Call> film = Films.full();
        refused("promise 2, full", film, "person(1214)", FULL, x -> x.person(1214));
        refused("promise 3, full", film, "step(0, 1, 0)", FULL, x -> x.step(0, 1, 0));
        refused("promise 3, full", film, "step(0, 58, 0)", FULL, x -> x.step(0, 58, 0));
        refused("promise 4, full", film, "wall(900, 931)", FULL, x -> x.wall(900, 931));
        refused("promise 6, full", film, "camera(1011, 3)", FULL, x -> x.camera(1011, 3));
        refused("promise 7, full", film, "board(2202, 1, 59, 200)", FULL, x -> x.board(2202, 1, 59, 200));
        refused("promise 24, full", film, "list(0)", FULL, x -> x.list(0));
        refused("promise 24, full", film, "list(9)", FULL, x -> x.list(9));
    }

    private static void noPlanChangesNothing() {
        List<Ask.Call> film = Films.withoutPlan();
        refused("promise 19, no plan", film, "fewest()", NO_PLAN, x -> x.fewest());
        refused("promise 20, no plan", film, "plan(0)", NO_PLAN, x -> x.plan(0));
        refused("promise 21, no plan", film, "swings()", NO_PLAN, x -> x.swings());
        refused("promise 22, no plan", film, "order(0)", NONE, x -> x.order(0));
    }

    private static void promise23ChangesTheListAlone() {
        check.on("promise 23, STATE empties THE LIST and changes nothing else");
        List<Ask.Call> film = Films.fullWithoutList();
        int[][] rows = {{}, {0}, {0, 0, 0, 0, 0, 0, 0}, {5, 1, 1, 0, 0, 1, 0, 1}, {0, 1, 1, 0, 0, 1, 0, 2}};
        for (int[] row : rows) {
            ShotBoard x = Ask.made(film);
            Sets.tell(x, row);
            check.due("crossings() of " + row.length, x.crossings(), STATE);
            same("crossings() of " + row.length, Ask.answers(x, ALL), Ask.answers(Ask.made(film), ALL));
            check.due("rate(1) after that", x.rate(1), 7);
        }
        check.on("promise 23, a number of CUTS empties THE LIST and changes nothing else");
        ShotBoard x = Ask.made(Films.full());
        check.due("crossings()", x.crossings(), 1);
        same("crossings()", Ask.answers(x, ALL), Ask.answers(Ask.made(film), ALL));
    }

    private static void askingChangesNothing() {
        check.on("promises 10 to 27, asking changes nothing");
        for (List<Ask.Call> film : List.of(Films.empty(), Films.some(), Films.withoutPlan(), Films.full())) {
            for (Ask change : CHANGES) {
                ShotBoard asked = Ask.made(film);
                Ask.answers(asked, ALL);
                ShotBoard fresh = Ask.made(film);
                check.due(change.told() + " after all asks", change.call().of(asked), change.call().of(fresh));
                check.due("fewest() after that", asked.fewest(), fresh.fewest());
                check.due("swings() after that", asked.swings(), fresh.swings());
                check.due("plan(0) after that", asked.plan(0), fresh.plan(0));
                check.due("run() after that", asked.run(), fresh.run());
            }
        }
    }
}
