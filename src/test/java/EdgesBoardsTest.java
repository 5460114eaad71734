/** The boundary cases of promises 15 to 18 (gives, why, side, length), sentence by sentence. */
public final class EdgesBoardsTest {
    private static final int NONE = -1, NO_SIDE = -9;
    private static final int CLOSE = Sets.CLOSE, MIDDLE = Sets.MIDDLE, WIDE = Sets.WIDE, ANY = Sets.ANY;
    private static final Check check = new Check("EdgesBoardsTest");

    private EdgesBoardsTest() {
    }

    public static void main(String[] args) {
        promise15And16Arguments();
        promise15EachTick();
        promise15EachSize();
        promise15AllThatMustBe();
        promise15NoSide();
        promise15WithinIt();
        promise15LongOnesAlone();
        promise16GivesIt();
        promise16EachHidden();
        promise16EachBeyond();
        promise16SizeAndSide();
        promise16FirstOfThem();
        promise16ByNumbers();
        promise16LeastTick();
        promise17Arguments();
        promise17NoTwo();
        promise17OnThatLine();
        promise17InOnePlace();
        promise17LeastOther();
        promise17FirstTick();
        promise18Arguments();
        promise18TheRestUp();
        check.end();
    }

    private static void whyAndGives(ShotBoard x, String what, int board, int want) {
        check.due(what + ": why", x.why(0, board), want);
        check.due(what + ": gives", x.gives(0, board), want == 0 ? 1 : 0);
    }

    private static void promise15And16Arguments() {
        numbersOfCamerasAndBoards("promise 15", "gives", 1, (x, n) -> x.gives(n, 0), (x, n) -> x.gives(0, n));
        numbersOfCamerasAndBoards("promise 16", "why", 0, (x, n) -> x.why(n, 0), (x, n) -> x.why(0, n));
        ShotBoard x = Sets.camerasAndBoards(1, 1);
        x.drop();
        check.due("why of a board that went", x.why(0, 0), NONE);
        check.due("gives of a board that went", x.gives(0, 0), NONE);
    }

    private static void numbersOfCamerasAndBoards(String promise, String call, int good, Sweep.Call ofCamera,
        Sweep.Call ofBoard) {
        check.on(promise + ", no such CAMERA: NONE");
        for (int many = 0; many <= 10; many++) {
            int cameras = many;
            new Sweep(check, call + "(n, 0) of " + many, () -> Sets.camerasAndBoards(cameras, 1), ofCamera)
                .numbers(0, many - 1, NONE, n -> good);
        }
        check.on(promise + ", no such BOARD: NONE");
        for (int many = 0; many <= 8; many++) {
            int boards = many;
            new Sweep(check, call + "(0, n) of " + many, () -> Sets.camerasAndBoards(1, boards), ofBoard)
                .numbers(0, many - 1, NONE, n -> good);
        }
    }

    /** A camera at (10, 10), and a person at (20, 10) that is hidden by another one at one tick alone. */
    private static ShotBoard hiddenAt(int tick) {
        ShotBoard x = new ShotBoard();
        x.camera(1010, 0);
        x.person(2010);
        x.person(tick == 0 ? 1510 : 1520);
        if (tick > 0) {
            x.step(1, tick, 1510);
        }
        if (tick < 59) {
            x.step(1, tick + 1, 1520);
        }
        return x;
    }

    private static void promise15EachTick() {
        check.on("promise 15, at each TICK of it: the first, the last, the ones just outside");
        for (int tick = 0; tick <= 59; tick++) {
            ShotBoard x = hiddenAt(tick);
            x.board(0, ANY, 59, 0);
            whyAndGives(x, "all ticks, hidden at " + tick, 0, 100 * tick + 10);
            x.board(0, ANY, 101 * tick, 0);
            whyAndGives(x, "the tick " + tick + " alone", 1, 100 * tick + 10);
            x.board(0, ANY, 100 * tick + 59, 0);
            whyAndGives(x, "from tick " + tick + " on", 2, 100 * tick + 10);
            x.board(0, ANY, tick, 0);
            whyAndGives(x, "up to tick " + tick, 3, 100 * tick + 10);
            if (tick < 59) {
                x.board(0, ANY, 100 * tick + 159, 0);
                whyAndGives(x, "from the tick after " + tick, 4, 0);
            }
            if (tick > 0) {
                int last = x.board(0, ANY, tick - 1, 0);
                whyAndGives(x, "up to the tick before " + tick, last, 0);
            }
        }
    }

    private static void promise15EachSize() {
        check.on("promise 15, m has one of the SIZES: up to 16, up to 100, beyond");
        int[] places = {1410, 1411, 2010, 2011};
        int[] bits = {CLOSE, MIDDLE, MIDDLE, WIDE};
        for (int i = 0; i < places.length; i++) {
            for (int sizes = 1; sizes <= 7; sizes++) {
                ShotBoard x = new ShotBoard();
                x.camera(1010, 0);
                x.person(places[i]);
                // The other one is large where m is small, and small where m is large: m alone counts.
                x.person(i < 2 ? 3115 : 1211);
                x.board(2, sizes, 0, 0);
                whyAndGives(x, "sizes " + sizes + ", m at " + places[i], 0, (sizes & bits[i]) != 0 ? 0 : 30);
            }
        }
    }

    private static void promise15AllThatMustBe() {
        check.on("promise 15, it SEES all that must be, and others need not be seen");
        for (int mask = 0; mask < 64; mask++) {
            for (int gone = 0; gone <= 5; gone++) {
                ShotBoard x = Sets.persons(6);
                x.camera(1010, 0);
                x.step(gone, 1, 10);
                int m = gone == 0 ? 1 : 0;
                x.board(100 * m + mask, ANY, 101, 0);
                boolean must = (mask >> gone & 1) != 0;
                whyAndGives(x, "mask " + mask + ", behind the camera: " + gone, 0, must ? 120 + gone : 0);
            }
        }
    }

    /** A camera at (10, 10), m at (20, 10), and another one that stands at these y by ticks, always at x 20. */
    private static ShotBoard walk(int... y) {
        ShotBoard x = new ShotBoard();
        x.camera(1010, 0);
        x.person(2010);
        x.person(2000 + y[0]);
        for (int tick = 1; tick < y.length; tick++) {
            x.step(1, tick, 2000 + y[tick]);
        }
        x.board(2002, ANY, y.length - 1, 0);
        return x;
    }

    private static void promise15NoSide() {
        check.on("promise 15, to the other side of the line (0 is no side)");
        whyAndGives(walk(12), "one tick", 0, 0);
        whyAndGives(walk(12, 11), "the same side", 0, 0);
        whyAndGives(walk(11, 9), "over", 0, 140);
        whyAndGives(walk(9, 11), "over, the other way", 0, 140);
        whyAndGives(walk(12, 10), "to the line", 0, 0);
        whyAndGives(walk(10, 12), "from the line", 0, 0);
        whyAndGives(walk(10, 8), "from the line, the other way", 0, 0);
        whyAndGives(walk(12, 10, 8), "over by way of the line", 0, 0);
        whyAndGives(walk(8, 10, 10, 12), "over by way of the line, with a rest", 0, 0);
        whyAndGives(walk(12, 10, 12), "to the line and back", 0, 0);
        whyAndGives(walk(10, 12, 8), "from the line and over", 0, 240);
        whyAndGives(walk(12, 10, 8, 12), "by way of the line, and over back", 0, 340);
        whyAndGives(walk(20, 0), "as far as the cone goes", 0, 140);
        ShotBoard x = new ShotBoard();
        x.camera(1010, 0);
        x.person(1110);
        x.person(1111);
        x.step(1, 1, 1109);
        x.board(2002, ANY, 1, 0);
        whyAndGives(x, "as near as can be", 0, 140);
        x.step(0, 1, 1109);
        whyAndGives(x, "as near as can be, to the line", 0, 0);
    }

    private static void promise15WithinIt() {
        check.on("promise 15, from one TICK to the next within it");
        ShotBoard x = walk(12, 12, 12, 8, 8, 8);
        x.drop();
        int[] spans = {5, 203, 3, 2, 305, 303, 202, 59};
        int[] want = {340, 340, 340, 0, 0, 0, 0, 340};
        for (int b = 0; b < spans.length; b++) {
            x.board(2002, ANY, spans[b], 0);
            whyAndGives(x, "ticks " + spans[b], b, want[b]);
        }
        ShotBoard y = new ShotBoard();
        y.camera(1010, 0);
        y.person(2010);
        y.person(2012);
        y.step(1, 59, 2008);
        y.board(2002, ANY, 5859, 0);
        whyAndGives(y, "at the last tick of all", 0, 5940);
        y.board(2002, ANY, 58, 0);
        whyAndGives(y, "up to the tick before it", 1, 0);
        y.step(0, 1, 2013);
        whyAndGives(y, "m goes to the other side of it at tick 1", 1, 140);
        y.step(1, 1, 2015);
        whyAndGives(y, "both go", 1, 0);
        y.step(1, 2, 2013);
        y.step(1, 3, 2011);
        whyAndGives(y, "by way of the line to where m is now, not where it was", 1, 0);
        y.step(1, 2, 2014);
        whyAndGives(y, "over the line to where m is now", 1, 340);
    }

    private static void promise15LongOnesAlone() {
        check.on("promise 15, for LONG ones also, and of PERSONS that must be seen");
        int[] who = {2, 1002, 2000, 2002, 2003};
        int[] want = {0, 0, 0, 140, 140};
        for (int i = 0; i < who.length; i++) {
            ShotBoard x = walk(12, 8);
            x.drop();
            x.board(who[i], ANY, 1, 0);
            whyAndGives(x, "who " + who[i], 0, want[i]);
        }
    }

    private static void promise16GivesIt() {
        check.on("promise 16, 0: it GIVES it");
        ShotBoard x = Sets.persons(3);
        for (int c = 0; c <= 9; c++) {
            x.camera(300 * c + c, c % 4);
        }
        int[] who = {0, 7, 103, 1002, 1204, 2007, 200, 1107};
        for (int b = 0; b <= 7; b++) {
            x.board(who[b], 1 + b % 7, b, 0);
        }
        int given = 0;
        for (int c = 0; c <= 9; c++) {
            for (int b = 0; b <= 7; b++) {
                given += x.gives(c, b);
                check.holds("why(" + c + ", " + b + ") and gives", x.why(c, b) == 0 == (x.gives(c, b) == 1));
            }
        }
        check.holds("some are given, some are not: " + given, given > 5 && given < 75);
    }

    private static void promise16EachHidden() {
        check.on("promise 16, 10 and p, 100 times the TICK, and at TICK 0 what alone");
        for (int p = 0; p <= 5; p++) {
            for (int m = 0; m <= 5; m++) {
                for (int tick : new int[] {0, 1, 30, 59}) {
                    ShotBoard x = Sets.persons(6);
                    x.camera(1010, 0);
                    x.wall(2008 + p, 2108 + p);
                    x.board(100 * m + 63, ANY, 101 * tick, 0);
                    whyAndGives(x, "m " + m + ", hidden " + p, 0, 100 * tick + 10 + p);
                }
            }
        }
        ShotBoard x = Sets.persons(1);
        x.camera(2008, 0);
        x.board(0, ANY, 0, 0);
        whyAndGives(x, "the camera stands at m", 0, 10);
    }

    private static void promise16EachBeyond() {
        check.on("promise 16, 20 and p, 100 times the TICK, and at TICK 0 what alone");
        for (int p = 0; p <= 5; p++) {
            for (int m = 0; m <= 5; m++) {
                for (int tick : new int[] {0, 1, 30, 59}) {
                    ShotBoard x = new ShotBoard();
                    x.camera(1010, 0);
                    for (int i = 0; i <= 5; i++) {
                        x.person(i == p ? 1020 : 2008 + i);
                    }
                    x.board(100 * m + 63, ANY, 101 * tick, 0);
                    // If m stands there, all others are beyond.
                    int first = m != p ? p : m == 0 ? 1 : 0;
                    whyAndGives(x, "m " + m + ", beyond " + p, 0, 100 * tick + 20 + first);
                }
            }
        }
    }

    private static void promise16SizeAndSide() {
        check.on("promise 16, 30: the SIZE");
        for (int tick : new int[] {0, 1, 59}) {
            ShotBoard x = Sets.persons(3);
            x.camera(1010, 0);
            x.board(200, CLOSE | WIDE, 101 * tick, 0);
            whyAndGives(x, "size at tick " + tick, 0, 100 * tick + 30);
        }
        check.on("promise 16, 40: someone came to the other side at that TICK");
        for (int p = 0; p <= 5; p++) {
            for (int tick : new int[] {1, 30, 59}) {
                ShotBoard x = new ShotBoard();
                x.camera(1010, 0);
                int m = p == 3 ? 2 : 3;
                for (int i = 0; i <= 5; i++) {
                    x.person(i == m ? 2010 : i == p ? 2012 : i);
                }
                x.step(p, tick, 2008);
                x.board(2000 + 100 * m + (1 << p), ANY, 59, 0);
                whyAndGives(x, "person " + p + " at tick " + tick, 0, 100 * tick + 40);
            }
        }
    }

    private static void promise16FirstOfThem() {
        check.on("promise 16, there the first of: 10, 20, 30, 40");
        for (int set = 0; set < 16; set++) {
            for (int tick : new int[] {1, 59}) {
                ShotBoard x = new ShotBoard();
                x.camera(1010, 0);
                x.person(2010);
                x.person(2012);
                x.person(2013);
                x.person(2008);
                stepIf(x, (set & 1) != 0, 1, tick, 3010);
                stepIf(x, (set & 2) != 0, 2, tick, 1020);
                stepIf(x, (set & 4) != 0, 0, tick, 2110);
                stepIf(x, (set & 8) != 0, 3, tick, 2011);
                x.board(2015, MIDDLE, 59, 0);
                int first = (set & 1) != 0 ? 11 : (set & 2) != 0 ? 22 : (set & 4) != 0 ? 30 : 40;
                whyAndGives(x, "failures " + set + " at tick " + tick, 0, set == 0 ? 0 : 100 * tick + first);
            }
        }
    }

    private static void stepIf(ShotBoard x, boolean isSo, int person, int tick, int place) {
        if (isSo) {
            x.step(person, tick, place);
        }
    }

    private static void promise16ByNumbers() {
        check.on("promise 16, PERSON p (by numbers, of those that must be seen)");
        ShotBoard x = Sets.persons(6);
        x.camera(1010, 0);
        x.wall(2100, 2131);
        x.step(1, 1, 2209);
        x.step(4, 1, 2212);
        x.board(263, ANY, 1, 0);
        whyAndGives(x, "1 and 4 hidden", 0, 111);
        x.board(260, ANY, 1, 0);
        whyAndGives(x, "1 and 4 hidden, 1 need not be seen", 1, 114);
        x.step(0, 1, 1020);
        whyAndGives(x, "0 beyond, 1 and 4 hidden: HIDDEN ones come first", 0, 111);
        x.step(1, 1, 1000);
        x.step(4, 1, 1100);
        whyAndGives(x, "0, 1 and 4 beyond", 0, 120);
        whyAndGives(x, "4 beyond, 0 and 1 need not be seen", 1, 124);
    }

    private static void promise16LeastTick() {
        check.on("promise 16, the least TICK at which it fails");
        ShotBoard x = new ShotBoard();
        x.camera(1010, 0);
        x.person(2010);
        x.person(2012);
        x.board(2002, MIDDLE, 59, 0);
        whyAndGives(x, "nothing fails", 0, 0);
        x.step(0, 59, 1010);
        whyAndGives(x, "hidden at 59", 0, 5910);
        x.step(1, 58, 1030);
        whyAndGives(x, "beyond at 58", 0, 5821);
        x.step(0, 57, 3110);
        whyAndGives(x, "size at 57", 0, 5730);
        x.step(1, 56, 2008);
        whyAndGives(x, "side at 56", 0, 5640);
        x.step(1, 1, 2008);
        whyAndGives(x, "side at 1", 0, 140);
        x.board(2002, MIDDLE, 159, 0);
        whyAndGives(x, "from tick 1 on there is no other side before 57", 1, 5730);
    }

    /** Two speakers at (10, 10) and (14, 10), so many cameras below their line, and so many TWOS. */
    private static ShotBoard twos(int cameras, int boards) {
        ShotBoard x = Sets.speakers();
        for (int c = 0; c < cameras; c++) {
            x.camera(1200 + c, 0);
        }
        for (int b = 0; b < boards; b++) {
            x.board(1002, ANY, 0, 0);
        }
        return x;
    }

    private static void promise17Arguments() {
        check.on("promise 17, -9: no such CAMERA");
        for (int many = 0; many <= 10; many++) {
            int cameras = many;
            new Sweep(check, "side(n, 0) of " + many, () -> twos(cameras, 1), (x, n) -> x.side(n, 0))
                .numbers(0, many - 1, NO_SIDE, n -> -1);
        }
        check.on("promise 17, -9: no such BOARD");
        for (int many = 0; many <= 8; many++) {
            int boards = many;
            new Sweep(check, "side(0, n) of " + many, () -> twos(1, boards), (x, n) -> x.side(0, n))
                .numbers(0, many - 1, NO_SIDE, n -> -1);
        }
        ShotBoard x = twos(1, 1);
        x.drop();
        check.due("side of a board that went", x.side(0, 0), NO_SIDE);
    }

    private static void promise17NoTwo() {
        check.on("promise 17, -9: no TWO");
        int[] who = {0, 2, 7, 102, 1002, 1101, 2000, 2007};
        int[] want = {-9, -9, -9, -9, -1, 1, -9, -9};
        ShotBoard x = twos(1, 0);
        for (int b = 0; b < who.length; b++) {
            x.board(who[b], ANY, 0, 0);
            check.due("side(0, " + b + ")", x.side(0, b), want[b]);
        }
        x.wall(1200, 1300);
        check.due("it need not give it", x.side(0, 4), -1);
        check.due("it does not give it", x.gives(0, 4), 0);
    }

    private static void promise17OnThatLine() {
        check.on("promise 17, 0 if it stands on that line");
        int[] places = {10, 910, 1010, 1110, 1210, 1410, 1510, 3110};
        for (int place : places) {
            check.due("camera at " + place, sideFrom(place, 1010, 1410), 0);
            check.due("camera one above " + place, sideFrom(place + 1, 1010, 1410), 1);
            check.due("camera one below " + place, sideFrom(place - 1, 1010, 1410), -1);
            check.due("camera one above, the other way about", sideFrom(place + 1, 1410, 1010), -1);
        }
        check.due("on the slant", sideFrom(3131, 0, 101), 0);
        check.due("next to the slant", sideFrom(3130, 0, 101), -1);
        check.due("on the other side of it", sideFrom(3031, 0, 101), 1);
        check.due("next to a slant that is not met", sideFrom(101, 0, 3130), 1);
        check.due("upright, to the left", sideFrom(0, 1010, 1011), 1);
        check.due("upright, to the right", sideFrom(3100, 1010, 1011), -1);
        check.due("upright, on it", sideFrom(1031, 1010, 1011), 0);
    }

    private static int sideFrom(int camera, int m, int o) {
        ShotBoard x = new ShotBoard();
        x.camera(camera, 0);
        x.person(m);
        x.person(o);
        x.board(1002, ANY, 0, 0);
        return x.side(0, 0);
    }

    private static void promise17InOnePlace() {
        check.on("promise 17, 0 if they stand in one PLACE");
        for (int camera : new int[] {0, 31, 3100, 3131, 1510, 1515}) {
            check.due("camera at " + camera, sideFrom(camera, 1515, 1515), 0);
            check.due("camera at " + camera + ", in a corner", sideFrom(camera, 0, 0), 0);
        }
    }

    private static void promise17LeastOther() {
        check.on("promise 17, the SPEAKERS: m and the least other one that must be seen");
        for (int m = 0; m <= 5; m++) {
            for (int mask = 0; mask < 64; mask++) {
                int others = mask & ~(1 << m);
                if (others != 0) {
                    ShotBoard x = new ShotBoard();
                    x.camera(2015, 0);
                    for (int p = 0; p <= 5; p++) {
                        x.person(p == m ? 1515 : p == Integer.numberOfTrailingZeros(others) ? 1525 : 1505);
                    }
                    x.board(1000 + 100 * m + mask, ANY, 0, 0);
                    check.due("m " + m + ", mask " + mask, x.side(0, 0), -1);
                }
            }
        }
    }

    private static void promise17FirstTick() {
        check.on("promise 17, the SPEAKERS at its first TICK");
        ShotBoard x = new ShotBoard();
        x.camera(1204, 0);
        x.person(1010);
        x.person(1410);
        x.step(0, 1, 1810);
        x.step(0, 59, 1410);
        int[] spans = {0, 1, 59, 101, 159, 5859, 5959};
        int[] want = {-1, -1, -1, 1, 1, 1, 0};
        for (int b = 0; b < spans.length; b++) {
            x.board(1002, ANY, spans[b], 0);
            check.due("side of ticks " + spans[b], x.side(0, b), want[b]);
        }
    }

    private static void promise18Arguments() {
        check.on("promise 18, no such BOARD: NONE");
        for (int many = 0; many <= 8; many++) {
            int boards = many;
            new Sweep(check, "length(n) of " + many, () -> Sets.camerasAndBoards(0, boards), (x, n) -> x.length(n))
                .numbers(0, many - 1, NONE, n -> n + 1);
        }
    }

    private static void promise18TheRestUp() {
        check.on("promise 18, the greater one of how many TICKS, and WORDS divided by RATE, the rest up");
        for (int rate = 1; rate <= 20; rate++) {
            for (int words = 0; words <= 200; words++) {
                int spoken = 0;
                while (spoken * rate < words) {
                    spoken++;
                }
                ShotBoard x = Sets.persons(1);
                x.rate(rate);
                for (int span : new int[] {0, 5959, 9, 59}) {
                    int board = x.board(0, ANY, span, words);
                    int ticks = span % 100 - span / 100 + 1;
                    check.due("words " + words + " at rate " + rate + ", ticks " + span, x.length(board),
                        Math.max(ticks, spoken));
                }
            }
        }
    }
}
