/** The boundary cases of promises 1 to 9, sentence by sentence. */
public final class EdgesSetupTest {
    private static final int NONE = -1, FULL = -2, STATE = -3;
    private static final int LEAST = Sweep.LEAST, MOST = Sweep.MOST;
    private static final Check check = new Check("EdgesSetupTest");

    private EdgesSetupTest() {
    }

    public static void main(String[] args) {
        promise1NothingThere();
        promise1ObjectsApart();
        promise2Places();
        promise2Full();
        promise3Arguments();
        promise3FirstAndLastTick();
        promise3InItsPlace();
        promise3Full();
        promise4Arguments();
        promise4ToItself();
        promise4Full();
        promise5NoneLeft();
        promise6Arguments();
        promise6Full();
        promise7Who();
        promise7TwoOfOne();
        promise7Sizes();
        promise7Span();
        promise7Words();
        promise7MainAlways();
        promise7Full();
        promise8NoneLeft();
        promise9Rates();
        promise9FirstRate();
        check.end();
    }

    private static void promise1NothingThere() {
        check.on("promise 1, nobody, nothing");
        ShotBoard x = new ShotBoard();
        int[] got = {x.where(0, 0), x.hidden(0, 0, 0), x.sees(0, 0, 0, 0), x.size(0, 0, 0), x.views(0, 0),
            x.gives(0, 0), x.why(0, 0), x.length(0), x.plan(0), x.order(0), x.list(0), x.frame(0),
            x.step(0, 1, 0), x.board(0, 7, 0, 0)};
        for (int i = 0; i < got.length; i++) {
            check.due("call " + i + " of nothing", got[i], NONE);
        }
        check.due("side(0, 0)", x.side(0, 0), -9);
        check.due("open()", x.open(), STATE);
        check.due("drop()", x.drop(), STATE);
        int[] zero = {x.fewest(), x.swings(), x.crossings(), x.run(), x.count(0), x.count(1), x.count(2), x.count(3),
            x.count(4)};
        for (int i = 0; i < zero.length; i++) {
            check.due("number " + i + " of nothing", zero[i], 0);
        }
        check.due("rate(3)", x.rate(3), 3);
        check.due("person(0)", x.person(0), 0);
        check.due("wall(0, 1)", x.wall(0, 1), 0);
        check.due("camera(0, 0)", x.camera(0, 0), 0);
        check.due("board(0, 7, 0, 0)", x.board(0, 7, 0, 0), 0);
        check.due("list(0)", x.list(0), 1);
    }

    private static void promise1ObjectsApart() {
        check.on("promise 1, an object has nothing of another one");
        ShotBoard x = Sets.camerasAndBoards(10, 8);
        x.wall(0, 1);
        x.rate(20);
        x.list(0);
        ShotBoard y = new ShotBoard();
        for (int what = 0; what <= 4; what++) {
            check.due("count(" + what + ")", y.count(what), 0);
        }
        check.due("rate(1)", y.rate(1), 3);
        check.due("rate(1) of the first one", x.rate(1), 20);
    }

    private static void promise2Places() {
        check.on("promise 2, x and y 0 .. 31, else NONE");
        new Sweep(check, "person(n)", ShotBoard::new, (x, n) -> x.person(n)).places(n -> 0);
        new Sweep(check, "where after person(n)", ShotBoard::new, EdgesSetupTest::whereAfterPerson).places(n -> n);
    }

    private static int whereAfterPerson(ShotBoard x, int place) {
        x.person(place);
        return x.where(0, 0);
    }

    private static void promise2Full() {
        check.on("promise 2, PERSONS 0 .. 5, then FULL");
        ShotBoard x = new ShotBoard();
        for (int p = 0; p <= 5; p++) {
            check.due("person " + p, x.person(3131), p);
            check.due("count(0)", x.count(0), p + 1);
        }
        check.due("a 7th", x.person(0), FULL);
        check.due("a 7th, again", x.person(3131), FULL);
        check.due("count(0)", x.count(0), 6);
        check.due("where(6, 0)", x.where(6, 0), NONE);
        check.due("where(5, 59)", x.where(5, 59), 3131);
        check.on("promise 2, NONE is named ahead of FULL");
        for (int place : new int[] {-1, 32, 3200, LEAST, MOST}) {
            check.due("a 7th at " + place, x.person(place), NONE);
        }
    }

    private static void promise3Arguments() {
        check.on("promise 3, a TICK (1 .. 59), else NONE");
        new Sweep(check, "step(0, n, 5)", () -> Sets.persons(1), (x, n) -> x.step(0, n, 5))
            .numbers(1, 59, NONE, n -> 1);
        check.on("promise 3, no such PERSON: NONE");
        for (int many = 0; many <= 6; many++) {
            int persons = many;
            new Sweep(check, "step(n, 1, 5) of " + many, () -> Sets.persons(persons), (x, n) -> x.step(n, 1, 5))
                .numbers(0, many - 1, NONE, n -> 1);
        }
        check.on("promise 3, no such PLACE: NONE");
        new Sweep(check, "step(0, 1, n)", () -> Sets.persons(1), (x, n) -> x.step(0, 1, n)).places(n -> 1);
        check.due("all wrong", Sets.persons(1).step(LEAST, MOST, LEAST), NONE);
    }

    private static void promise3FirstAndLastTick() {
        check.on("promise 3, from a TICK on: the first and the last one");
        ShotBoard x = new ShotBoard();
        x.person(0);
        check.due("step(0, 59, 3131)", x.step(0, 59, 3131), 1);
        check.due("where(0, 58)", x.where(0, 58), 0);
        check.due("where(0, 59)", x.where(0, 59), 3131);
        check.due("step(0, 1, 31)", x.step(0, 1, 31), 2);
        check.due("where(0, 0)", x.where(0, 0), 0);
        check.due("where(0, 1)", x.where(0, 1), 31);
        check.due("where(0, 58) then", x.where(0, 58), 31);
        check.due("where(0, 59) then", x.where(0, 59), 3131);
        check.due("step(0, 2, 31): to where it is", x.step(0, 2, 31), 3);
        check.due("step(0, 1, 0): to where it was", x.step(0, 1, 0), 3);
        check.due("where(0, 1) then", x.where(0, 1), 0);
        check.due("where(0, 2) then", x.where(0, 2), 31);
    }

    private static void promise3InItsPlace() {
        check.on("promise 3, told for a TICK that has one: in its place");
        ShotBoard x = new ShotBoard();
        x.person(0);
        x.step(0, 10, 1);
        x.step(0, 20, 2);
        for (int again = 0; again < 20; again++) {
            check.due("step(0, 10, ..), again", x.step(0, 10, 100 + again), 2);
            check.due("where(0, 9)", x.where(0, 9), 0);
            check.due("where(0, 10)", x.where(0, 10), 100 + again);
            check.due("where(0, 19)", x.where(0, 19), 100 + again);
            check.due("where(0, 20)", x.where(0, 20), 2);
        }
        check.due("step(0, 59, 3), none there yet", x.step(0, 59, 3), 3);
        check.due("step(0, 59, 4), one there", x.step(0, 59, 4), 3);
    }

    private static void promise3Full() {
        check.on("promise 3, FULL: a 13th");
        ShotBoard x = Sets.persons(2);
        for (int i = 1; i <= 12; i++) {
            check.due("step " + i, x.step(0, 5 * i - 1, i), i);
        }
        for (int tick : new int[] {1, 3, 5, 58}) {
            check.due("a 13th at tick " + tick, x.step(0, tick, 1515), FULL);
        }
        check.due("a 13th to where it is", x.step(0, 1, 2008), FULL);
        for (int i = 1; i <= 12; i++) {
            check.due("where(0, " + (5 * i - 1) + ")", x.where(0, 5 * i - 1), i);
            check.due("in the place of step " + i, x.step(0, 5 * i - 1, 100 * i), 12);
            check.due("where it is then", x.where(0, 5 * i - 1), 100 * i);
        }
        check.due("where(0, 3)", x.where(0, 3), 2008);
        check.due("another person's first", x.step(1, 58, 0), 1);
        check.on("promise 3, NONE is named ahead of FULL");
        check.due("a 13th at tick 0", x.step(0, 0, 0), NONE);
        check.due("a 13th at tick 60", x.step(0, 60, 0), NONE);
        check.due("a 13th to 32", x.step(0, 1, 32), NONE);
        check.due("a 13th to -1", x.step(0, 1, -1), NONE);
    }

    private static void promise4Arguments() {
        check.on("promise 4, no such PLACE: NONE");
        new Sweep(check, "wall(n, 3131)", ShotBoard::new, (x, n) -> x.wall(n, 3131)).places(n -> n == 3131 ? NONE : 0);
        new Sweep(check, "wall(0, n)", ShotBoard::new, (x, n) -> x.wall(0, n)).places(n -> n == 0 ? NONE : 0);
        check.due("wall(MIN, MAX)", new ShotBoard().wall(LEAST, MOST), NONE);
    }

    private static void promise4ToItself() {
        check.on("promise 4, NONE also from a PLACE to itself");
        for (int place : new int[] {0, 1, 31, 100, 1515, 3100, 3130, 3131}) {
            ShotBoard x = new ShotBoard();
            check.due("wall(" + place + ", itself)", x.wall(place, place), NONE);
            check.due("count(1)", x.count(1), 0);
        }
        check.due("to the next one up", new ShotBoard().wall(1515, 1516), 0);
        check.due("to the next one across", new ShotBoard().wall(1515, 1615), 0);
        check.due("the longest", new ShotBoard().wall(0, 3131), 0);
    }

    private static void promise4Full() {
        check.on("promise 4, WALLS 0 .. 11, then FULL");
        ShotBoard x = new ShotBoard();
        for (int w = 0; w <= 11; w++) {
            check.due("wall " + w, x.wall(0, 1), w);
        }
        check.due("a 13th", x.wall(0, 3131), FULL);
        check.due("count(1)", x.count(1), 12);
        check.due("open()", x.open(), 11);
        check.due("a 12th again", x.wall(0, 3131), 11);
        check.due("a 13th again", x.wall(0, 1), FULL);
        check.on("promise 4, NONE is named ahead of FULL");
        check.due("a 13th from a place to itself", x.wall(5, 5), NONE);
        check.due("a 13th from -1", x.wall(-1, 5), NONE);
        check.due("a 13th to 3132", x.wall(5, 3132), NONE);
    }

    private static void promise5NoneLeft() {
        check.on("promise 5, STATE: there is none");
        ShotBoard x = new ShotBoard();
        check.due("open() at first", x.open(), STATE);
        check.due("open() again", x.open(), STATE);
        check.due("wall after that", x.wall(0, 1), 0);
        check.due("open() of the only one", x.open(), 0);
        check.due("open() then", x.open(), STATE);
        for (int w = 0; w < 12; w++) {
            x.wall(0, 1 + w);
        }
        for (int left = 11; left >= 0; left--) {
            check.due("open()", x.open(), left);
            check.due("count(1)", x.count(1), left);
        }
        check.due("open() after twelve", x.open(), STATE);
        check.due("count(1)", x.count(1), 0);
    }

    private static void promise6Arguments() {
        check.on("promise 6, no such PLACE: NONE");
        new Sweep(check, "camera(n, 0)", ShotBoard::new, (x, n) -> x.camera(n, 0)).places(n -> 0);
        check.on("promise 6, LIGHT 0 .. 3, else NONE");
        new Sweep(check, "camera(0, n)", ShotBoard::new, (x, n) -> x.camera(0, n)).numbers(0, 3, NONE, n -> 0);
    }

    private static void promise6Full() {
        check.on("promise 6, CAMERAS 0 .. 9, then FULL");
        ShotBoard x = new ShotBoard();
        for (int c = 0; c <= 9; c++) {
            check.due("camera " + c, x.camera(3131, 3), c);
            check.due("count(2)", x.count(2), c + 1);
        }
        check.due("an 11th", x.camera(0, 0), FULL);
        check.due("count(2)", x.count(2), 10);
        check.due("list(9)", x.list(9), 1);
        check.due("list(10)", x.list(10), NONE);
        check.on("promise 6, NONE is named ahead of FULL");
        check.due("an 11th at 32", x.camera(32, 0), NONE);
        check.due("an 11th with light 4", x.camera(0, 4), NONE);
        check.due("an 11th with light -1", x.camera(0, -1), NONE);
    }

    /** Which numbers tell who: by KIND, m and the mask, each one that there is. */
    private static boolean[] allWho(int persons) {
        boolean[] is = new boolean[3000];
        for (int kind = 0; kind <= 2; kind++) {
            for (int m = 0; m < persons; m++) {
                for (int mask = 0; mask < 1 << persons; mask++) {
                    boolean lone = mask == 0 || mask == 1 << m;
                    is[1000 * kind + 100 * m + mask] = kind != 1 || !lone;
                }
            }
        }
        return is;
    }

    private static void promise7Who() {
        check.on("promise 7, KIND 0 .. 2, m and all that must be seen are there, else NONE");
        for (int many = 0; many <= 6; many++) {
            int persons = many;
            boolean[] is = allWho(many);
            new Sweep(check, "board(n, 7, 0, 0) of " + many, () -> Sets.persons(persons), (x, n) -> x.board(n, 7, 0, 0))
                .numbers(0, 2999, NONE, n -> is[n] ? 0 : NONE);
            check.due("KIND 3 of " + many, Sets.persons(many).board(3001, 7, 0, 0), NONE);
            check.due("KIND -1 of " + many, Sets.persons(many).board(-999, 7, 0, 0), NONE);
        }
    }

    private static void promise7TwoOfOne() {
        check.on("promise 7, NONE also a TWO with no other PERSON");
        for (int m = 0; m <= 5; m++) {
            check.due("TWO of m alone", Sets.persons(6).board(1000 + 100 * m + (1 << m), 7, 0, 0), NONE);
            check.due("TWO of nobody told", Sets.persons(6).board(1000 + 100 * m, 7, 0, 0), NONE);
            for (int o = 0; o <= 5; o++) {
                int want = o == m ? NONE : 0;
                check.due("TWO of " + m + " and " + o, Sets.persons(6).board(1000 + 100 * m + (1 << o), 7, 0, 0), want);
            }
            check.due("SHOT of m alone", Sets.persons(6).board(100 * m + (1 << m), 7, 0, 0), 0);
            check.due("LONG of m alone", Sets.persons(6).board(2000 + 100 * m, 7, 0, 0), 0);
        }
        check.due("TWO of the only person", Sets.persons(1).board(1001, 7, 0, 0), NONE);
    }

    private static void promise7Sizes() {
        check.on("promise 7, NONE also no SIZE");
        new Sweep(check, "board(0, n, 0, 0)", () -> Sets.persons(1), (x, n) -> x.board(0, n, 0, 0))
            .numbers(1, 7, NONE, n -> 0);
    }

    private static void promise7Span() {
        check.on("promise 7, TICKS a .. b from 0 to 59, NONE also a above b");
        new Sweep(check, "board(0, 7, n, 0)", () -> Sets.persons(1), (x, n) -> x.board(0, 7, n, 0))
            .numbers(0, 6199, NONE, n -> n / 100 <= n % 100 && n % 100 <= 59 ? 0 : NONE);
        for (int span : new int[] {0, 59, 5859, 5959}) {
            ShotBoard x = Sets.persons(1);
            x.board(0, 7, span, 0);
            check.due("length of span " + span, x.length(0), span % 100 - span / 100 + 1);
        }
    }

    private static void promise7Words() {
        check.on("promise 7, WORDS (0 .. 200), else NONE");
        new Sweep(check, "board(0, 7, 0, n)", () -> Sets.persons(1), (x, n) -> x.board(0, 7, 0, n))
            .numbers(0, 200, NONE, n -> 0);
        check.due("all wrong", Sets.persons(1).board(LEAST, MOST, LEAST, MOST), NONE);
    }

    private static void promise7MainAlways() {
        check.on("promise 7, m comes to it: m among them always");
        for (int m = 0; m <= 5; m++) {
            for (int mask : new int[] {0, 1 << m, 63, 63 & ~(1 << m)}) {
                ShotBoard x = Sets.persons(6);
                x.camera(1010, 0);
                // This wall begins where m stands, so that m alone is hidden.
                x.wall(2008 + m, 2108 + m);
                x.board(100 * m + mask, 7, 0, 0);
                check.due("m " + m + " hidden, mask " + mask + ": why", x.why(0, 0), 10 + m);
            }
        }
    }

    private static void promise7Full() {
        check.on("promise 7, BOARDS 0 .. 7, then FULL");
        ShotBoard x = Sets.persons(2);
        for (int b = 0; b <= 7; b++) {
            check.due("board " + b, x.board(1002, 7, 59, 200), b);
            check.due("count(3)", x.count(3), b + 1);
        }
        check.due("a 9th", x.board(0, 7, 0, 0), FULL);
        check.due("count(3)", x.count(3), 8);
        check.due("length(7)", x.length(7), 67);
        check.due("drop()", x.drop(), 7);
        check.due("an 8th again", x.board(0, 7, 0, 0), 7);
        check.due("length(7) then", x.length(7), 1);
        check.due("a 9th again", x.board(0, 7, 0, 0), FULL);
        check.on("promise 7, NONE is named ahead of FULL");
        check.due("a 9th of KIND 3", x.board(3000, 7, 0, 0), NONE);
        check.due("a 9th of person 2", x.board(200, 7, 0, 0), NONE);
        check.due("a 9th that shows person 2", x.board(4, 7, 0, 0), NONE);
        check.due("a 9th TWO of one", x.board(1001, 7, 0, 0), NONE);
        check.due("a 9th with no size", x.board(0, 0, 0, 0), NONE);
        check.due("a 9th with a above b", x.board(0, 7, 100, 0), NONE);
        check.due("a 9th up to tick 60", x.board(0, 7, 60, 0), NONE);
        check.due("a 9th with 201 words", x.board(0, 7, 0, 201), NONE);
    }

    private static void promise8NoneLeft() {
        check.on("promise 8, STATE: there is none");
        ShotBoard x = Sets.persons(1);
        check.due("drop() at first", x.drop(), STATE);
        check.due("drop() again", x.drop(), STATE);
        check.due("board after that", x.board(0, 7, 0, 0), 0);
        check.due("drop() of the only one", x.drop(), 0);
        check.due("drop() then", x.drop(), STATE);
        for (int b = 0; b < 8; b++) {
            x.board(0, 7, b, 0);
        }
        for (int left = 7; left >= 0; left--) {
            check.due("length of the last", x.length(left), left + 1);
            check.due("drop()", x.drop(), left);
            check.due("length of what went", x.length(left), NONE);
            check.due("count(3)", x.count(3), left);
        }
        check.due("drop() after eight", x.drop(), STATE);
        check.due("count(3)", x.count(3), 0);
    }

    private static void promise9Rates() {
        check.on("promise 9, RATE 1 .. 20, else NONE");
        new Sweep(check, "rate(n)", ShotBoard::new, (x, n) -> x.rate(n)).numbers(1, 20, NONE, n -> 3);
        new Sweep(check, "rate(9) after rate(n)", ShotBoard::new, EdgesSetupTest::rateAfterRate)
            .numbers(1, 20, 3, n -> n);
    }

    private static int rateAfterRate(ShotBoard x, int r) {
        x.rate(r);
        return x.rate(9);
    }

    private static void promise9FirstRate() {
        check.on("promise 9, 3 at first, and what it was");
        ShotBoard x = Sets.persons(1);
        x.board(0, 7, 0, 200);
        check.due("length(0) at first", x.length(0), 67);
        check.due("rate(3)", x.rate(3), 3);
        check.due("rate(20)", x.rate(20), 3);
        check.due("rate(20) again", x.rate(20), 20);
        check.due("length(0) at 20", x.length(0), 10);
        check.due("rate(21)", x.rate(21), NONE);
        check.due("rate(1)", x.rate(1), 20);
        check.due("length(0) at 1", x.length(0), 200);
        check.due("rate(0)", x.rate(0), NONE);
        check.due("length(0) at 1 still", x.length(0), 200);
    }
}
