import java.util.List;

/** "An object is used for at most 512 calls after it has been made": the 512th still answers as it should. */
public final class CallsTest {
    private static final int CALLS = 512;
    private static final Check check = new Check("CallsTest");

    private CallsTest() {
    }

    public static void main(String[] args) {
        eachCallAsTheLast();
        changesUpToTheLast();
        stepsUpToTheLast();
        listsUpToTheLast();
        beyondTheLast();
        check.end();
    }

    /** A film, then asks in turn up to the 511th call, then the one that is looked at. */
    private static void eachCallAsTheLast() {
        check.on("promises 2 to 27, each call as the 512th");
        List<Ask.Call> film = Films.full();
        List<Ask> asks = Ask.all();
        List<Ask> changes = Ask.changes();
        for (int i = 0; i < asks.size() + changes.size(); i++) {
            Ask last = i < asks.size() ? asks.get(i) : changes.get(i - asks.size());
            ShotBoard x = Ask.made(film);
            for (int call = film.size(); call < CALLS - 1; call++) {
                asks.get((call + i) % asks.size()).call().of(x);
            }
            check.due(last.told() + " as the 512th", last.call().of(x), last.call().of(Ask.made(film)));
        }
    }

    private static void changesUpToTheLast() {
        check.on("promises 4, 5 and 19, a wall that comes and goes up to the 512th call");
        ShotBoard x = Sets.camerasAndBoards(2, 8);
        int calls = 1 + 2 + 8;
        while (calls + 4 <= CALLS) {
            check.due("wall, from call " + calls, x.wall(1010, 1110), 0);
            check.due("fewest() with it", x.fewest(), -5);
            check.due("open()", x.open(), 0);
            check.due("fewest() without it", x.fewest(), 1);
            calls += 4;
        }
        check.due("the 512th call", x.fewest(), 1);
        check.due("calls", calls + 1, CALLS);
    }

    private static void stepsUpToTheLast() {
        check.on("promise 3, a step told 510 times is one step");
        ShotBoard x = Sets.persons(1);
        for (int i = 0; i < 510; i++) {
            check.due("step(0, 30, ..)", x.step(0, 30, 100 * (i % 32) + i / 32), 1);
        }
        check.due("the 512th call", x.where(0, 59), 100 * (509 % 32) + 509 / 32);
    }

    private static void listsUpToTheLast() {
        check.on("promises 23 and 24, lists up to the 512th call");
        ShotBoard x = Sets.camerasAndBoards(1, 8);
        int calls = 1 + 1 + 8;
        while (calls + 9 <= CALLS) {
            Sets.tell(x, 0, 0, 0, 0, 0, 0, 0, 0);
            check.due("crossings(), call " + (calls + 9), x.crossings(), 0);
            calls += 9;
        }
        while (calls < CALLS) {
            calls++;
            x.list(0);
        }
        check.due("calls", calls, CALLS);
    }

    /** What later calls answer is free, but LANGUAGE.md bars that any of them throws. */
    private static void beyondTheLast() {
        check.on("no call throws, also after the 512th");
        ShotBoard x = Ask.made(Films.full());
        for (int round = 0; round < 40; round++) {
            Ask.answers(x, Ask.all());
            Ask.answers(x, Ask.changes());
        }
        check.holds("it goes on", x.count(0) != 7);
    }
}
