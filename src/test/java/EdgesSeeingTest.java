/** The boundary cases of promises 10 to 14 (where, hidden, sees, size, views), sentence by sentence. */
public final class EdgesSeeingTest {
    private static final int NONE = -1;
    private static final Check check = new Check("EdgesSeeingTest");

    private EdgesSeeingTest() {
    }

    public static void main(String[] args) {
        promise10Arguments();
        promise10Steps();
        promise11Arguments();
        promise11EndOfAWall();
        promise11AlongAWall();
        promise11NearlyMet();
        promise11OnTheSlant();
        promise11EachOfTwelveWalls();
        promise11AnotherPerson();
        promise11EachOfSixPersons();
        promise11AtThatPlaceItself();
        promise11ByTicks();
        promise12Arguments();
        promise12AtLeast();
        promise12AboveZero();
        promise12Hidden();
        promise12ByTicks();
        promise13Arguments();
        promise13Squares();
        promise14Arguments();
        promise14NoneAndAll();
        promise14AsHiddenSays();
        check.end();
    }

    private static void promise10Arguments() {
        check.on("promise 10, TICKS 0 .. 59, else NONE");
        new Sweep(check, "where(0, n)", () -> Sets.persons(1), (x, n) -> x.where(0, n)).numbers(0, 59, NONE, n -> 2008);
        check.on("promise 10, no such PERSON: NONE");
        for (int many = 0; many <= 6; many++) {
            int persons = many;
            new Sweep(check, "where(n, 0) of " + many, () -> Sets.persons(persons), (x, n) -> x.where(n, 0))
                .numbers(0, many - 1, NONE, n -> 2008 + n);
        }
    }

    private static void promise10Steps() {
        check.on("promise 10, a PLACE from tick 0 on, and twelve STEPS, told from the last to the first");
        ShotBoard x = Sets.persons(6);
        for (int i = 12; i >= 1; i--) {
            x.step(5, i == 12 ? 59 : 4 * i, 100 * i);
        }
        for (int tick = 0; tick <= 59; tick++) {
            int want = tick < 4 ? 2013 : tick == 59 ? 1200 : 100 * Math.min(11, tick / 4);
            check.due("where(5, " + tick + ")", x.where(5, tick), want);
            check.due("where(4, " + tick + ")", x.where(4, tick), 2012);
        }
    }

    private static void promise11Arguments() {
        check.on("promise 11, no such PERSON, TICK, PLACE: NONE");
        for (int many = 0; many <= 6; many++) {
            int persons = many;
            new Sweep(check, "hidden(n, 0, 1010) of " + many, () -> Sets.persons(persons), (x, n) -> x.hidden(n, 0, 1010))
                .numbers(0, many - 1, NONE, n -> 0);
        }
        new Sweep(check, "hidden(0, n, 1010)", () -> Sets.persons(1), (x, n) -> x.hidden(0, n, 1010))
            .numbers(0, 59, NONE, n -> 0);
        new Sweep(check, "hidden(0, 0, n)", () -> Sets.persons(1), (x, n) -> x.hidden(0, 0, n))
            .places(n -> n == 2008 ? 1 : 0);
    }

    private static int turned(int place) {
        return place % 100 * 100 + place / 100;
    }

    /** Whether a wall hides who stands at one place from another: both ways, the wall either way, x and y changed. */
    private static void wallHides(int from, int to, int a, int b, int want) {
        oneWallHides(from, to, a, b, want);
        oneWallHides(to, from, a, b, want);
        oneWallHides(from, to, b, a, want);
        oneWallHides(to, from, b, a, want);
        oneWallHides(turned(from), turned(to), turned(a), turned(b), want);
        oneWallHides(turned(to), turned(from), turned(b), turned(a), want);
    }

    private static void oneWallHides(int from, int to, int a, int b, int want) {
        ShotBoard x = new ShotBoard();
        x.person(to);
        x.wall(a, b);
        check.due("wall " + a + " to " + b + ", " + to + " seen from " + from, x.hidden(0, 0, from), want);
    }

    private static void promise11EndOfAWall() {
        check.on("promise 11, meets a WALL (an end of it, too)");
        wallHides(610, 1610, 1010, 1020, 1);
        wallHides(610, 1610, 1009, 1020, 1);
        wallHides(610, 1610, 1011, 1020, 0);
        wallHides(610, 1610, 1010, 1000, 1);
        wallHides(610, 1610, 1009, 1000, 0);
        wallHides(610, 1610, 610, 620, 1);
        wallHides(610, 1610, 600, 620, 1);
        wallHides(610, 1610, 611, 620, 0);
        wallHides(610, 1610, 510, 520, 0);
        wallHides(610, 1610, 500, 520, 0);
        wallHides(610, 1610, 1610, 1620, 1);
        wallHides(610, 1610, 1710, 1720, 0);
        wallHides(610, 1610, 1700, 1720, 0);
        wallHides(610, 1610, 610, 531, 1);
        wallHides(610, 1610, 1610, 3131, 1);
        wallHides(610, 710, 610, 611, 1);
        wallHides(610, 710, 709, 711, 1);
        wallHides(610, 710, 811, 809, 0);
        wallHides(0, 3131, 3131, 3130, 1);
        wallHides(0, 3131, 3100, 31, 1);
        wallHides(0, 31, 3100, 3131, 0);
        wallHides(0, 31, 3100, 31, 1);
    }

    private static void promise11AlongAWall() {
        check.on("promise 11, also if it lies along it");
        wallHides(610, 1610, 810, 1210, 1);
        wallHides(610, 1610, 610, 1610, 1);
        wallHides(610, 1610, 10, 3110, 1);
        wallHides(610, 1610, 10, 810, 1);
        wallHides(610, 1610, 1210, 2010, 1);
        wallHides(610, 1610, 10, 610, 1);
        wallHides(610, 1610, 1610, 3110, 1);
        wallHides(610, 1610, 10, 510, 0);
        wallHides(610, 1610, 1710, 3110, 0);
        wallHides(610, 1610, 811, 1211, 0);
        wallHides(610, 1610, 9, 3109, 0);
        wallHides(610, 1610, 610, 710, 1);
        wallHides(610, 1610, 1510, 1610, 1);
    }

    private static void promise11NearlyMet() {
        check.on("promise 11, walls that the line nearly meets, or just does");
        wallHides(0, 3130, 101, 131, 0);
        wallHides(0, 3130, 101, 100, 1);
        wallHides(0, 3130, 3029, 3129, 0);
        wallHides(0, 3130, 3029, 3030, 1);
        wallHides(0, 3130, 1615, 3129, 0);
        wallHides(0, 3130, 1515, 1615, 1);
        wallHides(0, 3130, 3131, 101, 0);
    }

    private static void promise11OnTheSlant() {
        check.on("promise 11, the same on a slant");
        wallHides(0, 1510, 302, 303, 1);
        wallHides(0, 1510, 303, 403, 0);
        wallHides(0, 1510, 302, 604, 1);
        wallHides(0, 1510, 1812, 3020, 0);
        wallHides(0, 1510, 1510, 3020, 1);
        wallHides(0, 1510, 1208, 3020, 1);
        wallHides(604, 1510, 302, 0, 0);
        wallHides(604, 1510, 604, 0, 1);
        wallHides(0, 1510, 301, 1209, 1);
        wallHides(31, 3100, 1516, 1615, 1);
        wallHides(31, 3100, 1515, 1414, 0);
    }

    private static void promise11EachOfTwelveWalls() {
        check.on("promise 11, WALLS 0 .. 11: each one of them hides");
        for (int which = 0; which <= 11; which++) {
            ShotBoard x = new ShotBoard();
            x.person(1610);
            for (int w = 0; w <= 11; w++) {
                x.wall(w == which ? 1005 : 2000, w == which ? 1015 : 2001 + w);
            }
            check.due("wall " + which, x.hidden(0, 0, 610), 1);
            for (int left = 11; left > which; left--) {
                x.open();
            }
            check.due("wall " + which + " being the last", x.hidden(0, 0, 610), 1);
            x.open();
            check.due("wall " + which + " gone", x.hidden(0, 0, 610), 0);
        }
    }

    /** Whether a person elsewhere hides one from a place; the other one made later, and made earlier. */
    private static void personHides(int from, int to, int other, int want) {
        ShotBoard x = new ShotBoard();
        x.person(to);
        x.person(other);
        check.due("a later one at " + other + ", " + to + " seen from " + from, x.hidden(0, 0, from), want);
        ShotBoard y = new ShotBoard();
        y.person(turned(other));
        y.person(turned(to));
        check.due("an earlier one at " + other + ", " + to + " seen from " + from + ", x and y changed",
            y.hidden(1, 0, turned(from)), want);
    }

    private static void promise11AnotherPerson() {
        check.on("promise 11, another PERSON's PLACE on it, other than the line's ends");
        personHides(610, 1610, 1010, 1);
        personHides(610, 1610, 710, 1);
        personHides(610, 1610, 1510, 1);
        personHides(1610, 610, 710, 1);
        personHides(610, 1610, 610, 0);
        personHides(610, 1610, 1610, 0);
        personHides(610, 1610, 510, 0);
        personHides(610, 1610, 1710, 0);
        personHides(610, 1610, 1011, 0);
        personHides(610, 1610, 1009, 0);
        personHides(0, 3020, 302, 1);
        personHides(0, 3020, 2718, 1);
        personHides(0, 3020, 201, 0);
        personHides(0, 3020, 403, 0);
        personHides(302, 3020, 0, 0);
        personHides(0, 3130, 101, 0);
        personHides(0, 3131, 101, 1);
        personHides(31, 3100, 3001, 1);
        personHides(610, 710, 610, 0);
        personHides(610, 810, 710, 1);
        personHides(812, 610, 711, 1);
    }

    private static void promise11EachOfSixPersons() {
        check.on("promise 11, PERSONS 0 .. 5: each one hides another");
        for (int p = 0; p <= 5; p++) {
            for (int hider = 0; hider <= 5; hider++) {
                ShotBoard x = new ShotBoard();
                for (int i = 0; i <= 5; i++) {
                    x.person(i == p ? 1610 : i == hider ? 1110 : 2000 + i);
                }
                check.due("person " + hider + " between, person " + p, x.hidden(p, 0, 610), p == hider ? 0 : 1);
            }
        }
    }

    private static void promise11AtThatPlaceItself() {
        check.on("promise 11, or the PERSON stands at that PLACE itself");
        for (int place : new int[] {0, 31, 3100, 3131, 1515}) {
            ShotBoard x = new ShotBoard();
            x.person(place);
            check.due("hidden from " + place, x.hidden(0, 0, place), 1);
            x.person(place);
            check.due("with another one there, too", x.hidden(0, 0, place), 1);
            check.due("the other one", x.hidden(1, 0, place), 1);
            check.due("from elsewhere", x.hidden(0, 0, 1615), 0);
        }
    }

    private static void promise11ByTicks() {
        check.on("promise 11, at a TICK: the places of that tick");
        ShotBoard x = new ShotBoard();
        x.person(1610);
        x.person(2020);
        x.step(1, 1, 1110);
        x.step(1, 2, 2020);
        x.step(0, 59, 610);
        int[] ticks = {0, 1, 2, 58, 59};
        int[] want = {0, 1, 0, 0, 1};
        for (int i = 0; i < ticks.length; i++) {
            check.due("hidden(0, " + ticks[i] + ", 610)", x.hidden(0, ticks[i], 610), want[i]);
        }
    }

    private static ShotBoard sixAndACamera() {
        ShotBoard x = Sets.persons(6);
        x.camera(1010, 0);
        return x;
    }

    private static void promise12Arguments() {
        check.on("promise 12, no such CAMERA, PERSON, TICK: NONE");
        for (int many = 0; many <= 10; many++) {
            int cameras = many;
            new Sweep(check, "sees(n, 0, 0, 0) of " + many, () -> Sets.camerasAndBoards(cameras, 0),
                (x, n) -> x.sees(n, 0, 0, 0)).numbers(0, many - 1, NONE, n -> 1);
        }
        new Sweep(check, "sees(0, n, 0, 0)", EdgesSeeingTest::sixAndACamera, (x, n) -> x.sees(0, n, 0, 0))
            .numbers(0, 5, NONE, n -> 1);
        new Sweep(check, "sees(0, 0, n, 0)", EdgesSeeingTest::sixAndACamera, (x, n) -> x.sees(0, 0, n, 0))
            .numbers(0, 5, NONE, n -> 1);
        new Sweep(check, "sees(0, 0, 1, n)", EdgesSeeingTest::sixAndACamera, (x, n) -> x.sees(0, 0, 1, n))
            .numbers(0, 59, NONE, n -> 1);
        ShotBoard camera = new ShotBoard();
        camera.camera(0, 0);
        check.due("a camera, but nobody", camera.sees(0, 0, 0, 0), NONE);
    }

    private static void seesAt(int from, int m, int p, int want) {
        ShotBoard x = new ShotBoard();
        x.camera(from, 0);
        x.person(m);
        x.person(p);
        check.due("from " + from + " at " + m + ", sees " + p, x.sees(0, 0, 1, 0), want);
        ShotBoard y = new ShotBoard();
        y.camera(turned(from), 0);
        y.person(turned(p));
        y.person(turned(m));
        check.due("from " + from + " at " + m + ", sees " + p + ", x and y changed", y.sees(0, 1, 0, 0), want);
    }

    private static void promise12AtLeast() {
        check.on("promise 12, 2 (a * b)(a * b) is at least (a * a)(b * b)");
        seesAt(1515, 2015, 2020, 1);
        seesAt(1515, 2015, 2010, 1);
        seesAt(1515, 2015, 2021, 0);
        seesAt(1515, 2015, 2009, 0);
        seesAt(1515, 2020, 2015, 1);
        seesAt(1515, 2020, 2014, 0);
        seesAt(1515, 2020, 1520, 1);
        seesAt(1515, 2020, 1420, 0);
        seesAt(1515, 1015, 1020, 1);
        seesAt(1515, 1015, 1021, 0);
        seesAt(1515, 1616, 1615, 1);
        seesAt(1515, 1615, 1617, 0);
        seesAt(0, 1205, 717, 1);
        seesAt(0, 1205, 718, 0);
        seesAt(0, 403, 107, 1);
        seesAt(0, 403, 108, 0);
        seesAt(1010, 1413, 1709, 1);
        seesAt(1010, 1413, 1708, 0);
        seesAt(0, 3100, 3131, 1);
        seesAt(0, 3100, 3031, 0);
        seesAt(0, 3131, 3100, 1);
        seesAt(3131, 0, 31, 1);
        seesAt(3131, 31, 3000, 0);
        seesAt(0, 3130, 3100, 1);
        seesAt(0, 3130, 30, 0);
    }

    private static void promise12AboveZero() {
        check.on("promise 12, a * b is above 0");
        seesAt(1515, 2015, 1015, 0);
        seesAt(1515, 2015, 1016, 0);
        seesAt(1515, 2020, 1010, 0);
        seesAt(1515, 2015, 1520, 0);
        seesAt(1515, 2015, 1510, 0);
        seesAt(1515, 1515, 2015, 0);
        seesAt(1515, 1515, 1515, 0);
        seesAt(1515, 2015, 1515, 0);
        seesAt(1515, 1615, 1415, 0);
        seesAt(1515, 2015, 2015, 1);
        ShotBoard x = new ShotBoard();
        x.camera(1515, 0);
        x.person(1515);
        check.due("a camera that stands at m sees m", x.sees(0, 0, 0, 0), 0);
    }

    private static void promise12Hidden() {
        check.on("promise 12, if p is not HIDDEN from it");
        seesAt(1515, 2015, 3015, 0);
        seesAt(1515, 3015, 2015, 1);
        ShotBoard x = new ShotBoard();
        x.camera(1515, 0);
        x.person(2015);
        x.person(2017);
        x.wall(2015, 2115);
        check.due("m at a wall's end: sees m", x.sees(0, 0, 0, 0), 0);
        check.due("m at a wall's end: sees p", x.sees(0, 0, 1, 0), 1);
        x.wall(1515, 1415);
        check.due("the camera at a wall's end: sees p", x.sees(0, 0, 1, 0), 0);
    }

    private static void promise12ByTicks() {
        check.on("promise 12, at a TICK");
        ShotBoard x = new ShotBoard();
        x.camera(1515, 0);
        x.person(2015);
        x.person(2021);
        x.step(1, 1, 2020);
        x.step(0, 59, 2014);
        int[] ticks = {0, 1, 58, 59};
        int[] want = {0, 1, 1, 0};
        for (int i = 0; i < ticks.length; i++) {
            check.due("sees(0, 0, 1, " + ticks[i] + ")", x.sees(0, 0, 1, ticks[i]), want[i]);
        }
    }

    private static void promise13Arguments() {
        check.on("promise 13, no such CAMERA, PERSON, TICK: NONE");
        for (int many = 0; many <= 10; many++) {
            int cameras = many;
            new Sweep(check, "size(n, 0, 0) of " + many, () -> Sets.camerasAndBoards(cameras, 0),
                (x, n) -> x.size(n, 0, 0)).numbers(0, many - 1, NONE, n -> n == 0 ? 2 : n < 8 ? 1 : 0);
        }
        new Sweep(check, "size(0, n, 0)", EdgesSeeingTest::sixAndACamera, (x, n) -> x.size(0, n, 0))
            .numbers(0, 5, NONE, n -> n == 2 ? 1 : 2);
        new Sweep(check, "size(0, 2, n)", EdgesSeeingTest::sixAndACamera, (x, n) -> x.size(0, 2, n))
            .numbers(0, 59, NONE, n -> 1);
    }

    private static void promise13Squares() {
        check.on("promise 13, CLOSE up to 16, MIDDLE up to 100, WIDE beyond");
        for (int camera : new int[] {0, 31, 3100, 3131, 1515, 1204}) {
            for (int n = 0; n <= 3131; n++) {
                if (Sweep.isPlace(n)) {
                    sizeAt(camera, n);
                }
            }
        }
    }

    private static void sizeAt(int camera, int place) {
        ShotBoard x = new ShotBoard();
        x.camera(camera, 0);
        x.person(place);
        int right = place / 100 - camera / 100;
        int up = place % 100 - camera % 100;
        int square = right * right + up * up;
        check.due("size at " + place + " from " + camera, x.size(0, 0, 0), square > 100 ? 2 : square > 16 ? 1 : 0);
    }

    private static void promise14Arguments() {
        check.on("promise 14, no such PERSON, TICK: NONE");
        for (int many = 0; many <= 6; many++) {
            ShotBoard x = new ShotBoard();
            for (int p = 0; p < many; p++) {
                x.person(0);
            }
            new Sweep(check, "views(n, 0) of " + many, () -> x, (y, n) -> y.views(n, 0))
                .numbers(0, many - 1, NONE, n -> 1023);
        }
        new Sweep(check, "views(0, n)", () -> Sets.persons(1), (x, n) -> x.views(0, n)).numbers(0, 59, NONE, n -> 1023);
    }

    private static void promise14NoneAndAll() {
        check.on("promise 14, from all PLACES but its own, and from none");
        for (int place : new int[] {0, 31, 3100, 3131, 1515}) {
            ShotBoard x = new ShotBoard();
            x.person(place);
            check.due("alone at " + place, x.views(0, 0), 1023);
            x.wall(place, place == 0 ? 1 : 0);
            check.due("at a wall's end", x.views(0, 59), 0);
            x.open();
            x.step(0, 59, 1616);
            check.due("the wall is gone, at its last tick", x.views(0, 59), 1023);
        }
        ShotBoard x = new ShotBoard();
        x.person(0);
        x.wall(100, 1);
        check.due("shut in a corner", x.views(0, 0), 0);
        x.open();
        x.wall(200, 2);
        check.due("shut in a corner with two more places", x.views(0, 0), 2);
    }

    private static void promise14AsHiddenSays() {
        check.on("promise 14, each PLACE of the plan from which it is not HIDDEN");
        for (int tick : new int[] {0, 1, 59}) {
            int seen = 0;
            for (int column = 0; column <= 31; column++) {
                ShotBoard x = crowd();
                for (int y = 0; y <= 31; y++) {
                    seen += x.hidden(5, tick, 100 * column + y) == 0 ? 1 : 0;
                }
            }
            check.due("views(5, " + tick + ")", crowd().views(5, tick), seen);
        }
        check.holds("the crowd moves", crowd().views(5, 0) != crowd().views(5, 59));
    }

    private static ShotBoard crowd() {
        ShotBoard x = Sets.persons(6);
        x.wall(505, 2505);
        x.wall(2800, 2831);
        x.step(5, 1, 1313);
        x.step(0, 59, 1212);
        return x;
    }
}
