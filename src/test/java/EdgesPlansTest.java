/** The boundary cases of promises 19 to 27 (the plans, THE LIST, the film's run, count), sentence by sentence. */
public final class EdgesPlansTest {
    private static final int NONE = -1, FULL = -2, STATE = -3, NO_PLAN = -5;
    private static final int CLOSE = Sets.CLOSE, MIDDLE = Sets.MIDDLE, WIDE = Sets.WIDE, ANY = Sets.ANY;
    /** Of the line between Sets.speakers(), and how large they are: below it the SIDE is -1, above it 1. */
    private static final int LOW_MIDDLE = 1204, LOW_WIDE = 1200, HIGH_MIDDLE = 1216, HIGH_WIDE = 1225;
    /** Where person 0 stands in all plans here: a camera in this place gives no board of it. */
    private static final int IDLE = 1010;
    private static final Check check = new Check("EdgesPlansTest");

    private EdgesPlansTest() {
    }

    public static void main(String[] args) {
        promise19NoBoards();
        promise19NoStrictPlan();
        promise19NoSide();
        promise19OneAndEight();
        promise19FewestFirst();
        promise19LeastMask();
        promise19FirstRow();
        promise20Arguments();
        promise20NoneThere();
        promise20Now();
        promise21NoneAndNoBoards();
        promise21Turns();
        promise22Arguments();
        promise22FewestChanges();
        promise23NoBoards();
        promise23NotAsMany();
        promise23DoesNotGive();
        promise23EmptyThen();
        promise23BoardsBetween();
        promise23WhicheverIsMain();
        promise23NoSide();
        promise23FirstTick();
        promise24Arguments();
        promise24Full();
        promise24Stays();
        promise25Lengths();
        promise26Arguments();
        promise26EachFrame();
        promise27Arguments();
        promise27EachFull();
        check.end();
    }

    private static void plans(String what, ShotBoard x, int many, int... row) {
        check.due(what + ": fewest()", x.fewest(), many);
        for (int b = 0; b < row.length; b++) {
            check.due(what + ": plan(" + b + ")", x.plan(b), row[b]);
        }
    }

    private static void orders(String what, ShotBoard x, int... row) {
        for (int i = 0; i < row.length; i++) {
            check.due(what + ": order(" + i + ")", x.order(i), row[i]);
        }
        check.due(what + ": order past the last", x.order(row.length), NONE);
    }

    private static void promise19NoBoards() {
        check.on("promise 19, 0: no BOARDS");
        check.due("a new object", new ShotBoard().fewest(), 0);
        check.due("persons alone", Sets.persons(6).fewest(), 0);
        check.due("ten cameras, no board", Sets.camerasAndBoards(10, 0).fewest(), 0);
        ShotBoard x = Sets.camerasAndBoards(10, 2);
        x.drop();
        check.due("one board left", x.fewest(), 1);
        x.drop();
        check.due("all boards went", x.fewest(), 0);
        x.list(0);
        check.due("a list, but no board", x.fewest(), 0);
    }

    private static void promise19NoStrictPlan() {
        check.on("promise 19, -5: there is no STRICT PLAN");
        for (int boards = 1; boards <= 8; boards++) {
            check.due(boards + " boards, no camera", Sets.camerasAndBoards(0, boards).fewest(), NO_PLAN);
        }
        ShotBoard x = Sets.camerasAndBoards(9, 7);
        check.due("all boards given", x.fewest(), 1);
        x.camera(IDLE, 0);
        x.board(0, ANY, 0, 0);
        check.due("the last camera gives none", x.fewest(), 1);
        x.drop();
        x.board(0, CLOSE, 0, 0);
        check.due("the last board has cameras that are close", x.fewest(), 1);
        x.wall(IDLE, 0);
        check.due("m is hidden from everywhere", x.fewest(), NO_PLAN);
        x.open();
        check.due("and no longer", x.fewest(), 1);
        ShotBoard y = Sets.speakers();
        y.camera(LOW_MIDDLE, 0);
        y.camera(HIGH_WIDE, 0);
        y.board(1002, MIDDLE, 0, 0);
        y.board(1002, WIDE, 0, 0);
        check.due("each board is given, but the cut crosses", y.fewest(), NO_PLAN);
        y.camera(HIGH_MIDDLE, 0);
        check.due("a camera on the other side", y.fewest(), 2);
    }

    private static void promise19NoSide() {
        check.on("promise 19, a CUT to or from a TWO with SIDE 0 does not CROSS");
        ShotBoard x = Sets.speakers();
        x.step(1, 1, 1010);
        x.camera(LOW_MIDDLE, 0);
        x.camera(HIGH_WIDE, 0);
        x.board(1002, MIDDLE, 0, 0);
        x.board(1002, ANY, 101, 0);
        x.board(1002, WIDE, 0, 0);
        check.due("side(1, 1)", x.side(1, 1), 0);
        plans("from -1 by way of 0 to 1", x, 2, 0, 0, 1);
        x.drop();
        x.board(1101, WIDE, 101, 0);
        plans("from 0 to 0", x, 2, 0, 0, 1);
        x.step(1, 1, 1410);
        plans("they no longer stand in one place", x, NO_PLAN, NO_PLAN, NO_PLAN, NO_PLAN);
    }

    private static void promise19OneAndEight() {
        check.on("promise 19, from one camera for eight boards to one for each, up to CAMERA 9");
        plans("one for all", Sets.camerasAndBoards(10, 8), 1, 0, 0, 0, 0, 0, 0, 0, 0);
        plans("one for each", Sets.oneCameraEach(0, 0, 0, 0, 0, 0, 0, 0, 0), 8, 0, 1, 2, 3, 4, 5, 6, 7);
        plans("the last ones", Sets.oneCameraEach(2, 0, 0, 0, 0, 0, 0, 0, 0), 8, 2, 3, 4, 5, 6, 7, 8, 9);
    }

    /** Ten cameras, all idle but for those told: number and place in turn. */
    private static void cameras(ShotBoard x, int... told) {
        for (int c = 0; c <= 9; c++) {
            int place = IDLE;
            for (int i = 0; i < told.length; i += 2) {
                place = told[i] == c ? told[i + 1] : place;
            }
            x.camera(place, 0);
        }
    }

    private static void promise19FewestFirst() {
        check.on("promise 19, those with the fewest CAMERAS come ahead of the least mask");
        ShotBoard x = new ShotBoard();
        x.person(1010);
        cameras(x, 0, 1012, 1, 1018, 9, 1030);
        x.board(0, CLOSE | WIDE, 0, 0);
        x.board(0, MIDDLE | WIDE, 0, 0);
        plans("9 alone, not 0 and 1", x, 1, 9, 9);
        x.board(0, CLOSE | MIDDLE, 0, 0);
        plans("now two are needed", x, 2, 0, 1, 0);
    }

    private static void promise19LeastMask() {
        check.on("promise 19, the least mask comes ahead of the first row");
        ShotBoard x = Sets.speakers();
        cameras(x, 0, LOW_MIDDLE, 1, HIGH_MIDDLE, 2, HIGH_WIDE, 3, LOW_WIDE);
        x.board(1002, MIDDLE, 0, 0);
        x.board(1002, WIDE, 0, 0);
        plans("1 and 2 (6), not 0 and 3 (9)", x, 2, 1, 2);
        ShotBoard y = Sets.speakers();
        cameras(y, 0, LOW_MIDDLE, 7, HIGH_MIDDLE, 8, HIGH_WIDE, 9, LOW_WIDE);
        y.board(1002, MIDDLE, 0, 0);
        y.board(1002, WIDE, 0, 0);
        plans("7 and 8 (384), not 0 and 9 (513)", y, 2, 7, 8);
        ShotBoard z = Sets.speakers();
        cameras(z, 4, LOW_WIDE, 5, HIGH_WIDE, 6, HIGH_MIDDLE, 9, LOW_MIDDLE);
        z.board(1002, MIDDLE, 0, 0);
        z.board(1002, WIDE, 0, 0);
        plans("5 and 6 (96), not 4 and 9 (528)", z, 2, 6, 5);
    }

    private static void promise19FirstRow() {
        check.on("promise 19, the row that comes first: the lesser one at the first BOARD in which they differ");
        ShotBoard x = new ShotBoard();
        x.person(1010);
        cameras(x, 3, 1012, 8, 1030);
        int[] sizes = {ANY, WIDE, CLOSE, ANY, CLOSE | WIDE, CLOSE, WIDE, ANY};
        for (int size : sizes) {
            x.board(0, size, 0, 0);
        }
        plans("the lesser one wherever both give it", x, 2, 3, 8, 3, 3, 3, 3, 8, 3);
        ShotBoard y = Sets.speakers();
        cameras(y, 2, LOW_MIDDLE, 5, HIGH_WIDE);
        y.board(1002, ANY, 0, 0);
        y.board(0, ANY, 0, 0);
        y.board(1101, ANY, 0, 0);
        y.board(2000, MIDDLE, 0, 0);
        y.board(1002, WIDE, 0, 0);
        plans("the last board binds the first", y, 2, 5, 2, 5, 2, 5);
        y.drop();
        y.board(1004, WIDE, 0, 0);
        plans("a TWO of others does not", y, 2, 2, 2, 2, 2, 5);
    }

    private static ShotBoard noPlan(int boards) {
        ShotBoard x = Sets.camerasAndBoards(2, boards);
        x.wall(1010, 1110);
        return x;
    }

    private static void promise20Arguments() {
        check.on("promise 20, no such BOARD: NONE");
        for (int many = 0; many <= 8; many++) {
            int boards = many;
            new Sweep(check, "plan(n) of " + many, () -> Sets.camerasAndBoards(1, boards), (x, n) -> x.plan(n))
                .numbers(0, many - 1, NONE, n -> 0);
        }
        ShotBoard x = Sets.oneCameraEach(2, 0, 0, 0, 0, 0, 0, 0, 0);
        new Sweep(check, "plan(n) of a camera each", () -> x, (y, n) -> y.plan(n)).numbers(0, 7, NONE, n -> n + 2);
    }

    private static void promise20NoneThere() {
        check.on("promise 20, -5: there is none");
        for (int many = 0; many <= 8; many++) {
            int boards = many;
            new Sweep(check, "plan(n) of " + many, () -> noPlan(boards), (x, n) -> x.plan(n))
                .numbers(0, many - 1, NONE, n -> NO_PLAN);
        }
        ShotBoard x = Sets.camerasAndBoards(1, 1);
        x.board(0, WIDE, 0, 0);
        check.due("a plan for both: plan(0)", x.plan(0), 0);
        x.drop();
        x.board(0, CLOSE, 0, 0);
        check.due("none for one of them: plan(0)", x.plan(0), NO_PLAN);
        check.due("none for one of them: plan(1)", x.plan(1), NO_PLAN);
    }

    private static void promise20Now() {
        check.on("promise 20, in FEWEST now: without fewest() being asked, after each change");
        ShotBoard x = new ShotBoard();
        x.person(1010);
        x.camera(1014, 0);
        x.board(0, ANY, 9, 0);
        check.due("at first", x.plan(0), 0);
        x.wall(1012, 1112);
        check.due("a wall came", x.plan(0), NO_PLAN);
        x.open();
        check.due("it went", x.plan(0), 0);
        x.person(1011);
        check.due("a person came between", x.plan(0), NO_PLAN);
        x.camera(1410, 0);
        check.due("a camera came", x.plan(0), 1);
        x.step(0, 9, 1410);
        check.due("a step at the last tick", x.plan(0), NO_PLAN);
        x.step(0, 9, 1510);
        check.due("in its place", x.plan(0), 1);
        x.step(1, 10, 1110);
        check.due("a step after the last tick", x.plan(0), 1);
        x.board(0, WIDE, 0, 0);
        check.due("a board came that has none", x.plan(0), NO_PLAN);
        x.drop();
        check.due("it went", x.plan(0), 1);
    }

    private static void promise21NoneAndNoBoards() {
        check.on("promise 21, -5, and 0 with no BOARDS");
        check.due("a new object", new ShotBoard().swings(), 0);
        check.due("no boards", Sets.camerasAndBoards(10, 0).swings(), 0);
        check.due("one board", Sets.camerasAndBoards(10, 1).swings(), 0);
        check.due("no camera", Sets.camerasAndBoards(0, 1).swings(), NO_PLAN);
        check.due("no plan for eight", noPlan(8).swings(), NO_PLAN);
        ShotBoard x = noPlan(1);
        x.drop();
        check.due("no plan, but no boards either", x.swings(), 0);
    }

    private static void promise21Turns() {
        check.on("promise 21, how many times, from one BOARD to the next, the LIGHT is another");
        check.due("one light", Sets.oneCameraEach(0, 3, 3, 3, 3, 3, 3, 3, 3).swings(), 0);
        check.due("each time", Sets.oneCameraEach(0, 0, 3, 0, 3, 0, 3, 0, 3).swings(), 7);
        check.due("each time, with all four", Sets.oneCameraEach(2, 0, 1, 2, 3, 0, 1, 2, 3).swings(), 7);
        check.due("at the first cut", Sets.oneCameraEach(0, 1, 2, 2, 2, 2, 2, 2, 2).swings(), 1);
        check.due("at the last cut", Sets.oneCameraEach(0, 2, 2, 2, 2, 2, 2, 2, 1).swings(), 1);
        check.due("two boards", Sets.oneCameraEach(0, 2, 1).swings(), 1);
        check.due("one board", Sets.oneCameraEach(0, 2).swings(), 0);
    }

    private static void promise22Arguments() {
        check.on("promise 22, no such place of ORDER: NONE");
        for (int many = 1; many <= 8; many++) {
            int[] lights = new int[many];
            new Sweep(check, "order(n) of " + many, () -> Sets.oneCameraEach(2, lights), (x, n) -> x.order(n))
                .numbers(0, many - 1, NONE, n -> n + 2);
        }
        new Sweep(check, "order(n) with no board", () -> Sets.camerasAndBoards(10, 0), (x, n) -> x.order(n))
            .numbers(0, -1, NONE, n -> 0);
        new Sweep(check, "order(n) with no plan", () -> noPlan(8), (x, n) -> x.order(n)).numbers(0, -1, NONE, n -> 0);
        check.due("no plan: order(0)", noPlan(1).order(0), NONE);
        check.due("a plan that went: order(0)", orderAfterAWall(), NONE);
    }

    private static int orderAfterAWall() {
        ShotBoard x = Sets.camerasAndBoards(1, 1);
        check.due("a plan: order(0)", x.order(0), 0);
        x.wall(1010, 1110);
        return x.order(0);
    }

    private static void promise22FewestChanges() {
        check.on("promise 22, the fewest changes of LIGHT; of several the first");
        orders("one light", Sets.oneCameraEach(0, 1, 1, 1, 1, 1, 1, 1, 1), 0, 1, 2, 3, 4, 5, 6, 7);
        orders("two in turn", Sets.oneCameraEach(0, 0, 3, 0, 3, 0, 3, 0, 3), 0, 2, 4, 6, 1, 3, 5, 7);
        orders("the greater light first", Sets.oneCameraEach(0, 3, 0, 3, 0), 0, 2, 1, 3);
        orders("all four", Sets.oneCameraEach(2, 3, 2, 1, 0, 0, 1, 2, 3), 2, 9, 3, 8, 4, 7, 5, 6);
        orders("the first's fellow comes last", Sets.oneCameraEach(0, 1, 0, 2, 1), 0, 3, 1, 2);
        orders("one camera", Sets.camerasAndBoards(10, 8), 0);
        ShotBoard x = new ShotBoard();
        x.person(1010);
        x.camera(1030, 1);
        x.camera(1012, 0);
        x.board(0, CLOSE, 0, 0);
        x.board(0, WIDE, 0, 0);
        orders("by the row of cameras, not of boards", x, 0, 1);
    }

    /** Two cameras, one below and one above the line, that give all boards of Sets.speakers(). */
    private static ShotBoard pairs(int... who) {
        ShotBoard x = Sets.speakers();
        x.camera(LOW_MIDDLE, 0);
        x.camera(HIGH_WIDE, 0);
        for (int one : who) {
            x.board(one, ANY, 0, 0);
        }
        return x;
    }

    private static void told(String what, ShotBoard x, int want, int... cameras) {
        for (int i = 0; i < cameras.length; i++) {
            check.due(what + ": list(" + cameras[i] + ")", x.list(cameras[i]), i + 1);
        }
        check.due(what + ": crossings()", x.crossings(), want);
        check.due(what + ": count(4)", x.count(4), 0);
    }

    private static void promise23NoBoards() {
        check.on("promise 23, no BOARDS and an empty LIST: no CUT");
        told("a new object", new ShotBoard(), 0);
        told("no boards", pairs(), 0);
        told("one board", pairs(1002), 0, 0);
        told("one shot", pairs(0), 0, 1);
    }

    private static void promise23NotAsMany() {
        check.on("promise 23, STATE: THE LIST has not as many (it is empty then, too)");
        told("one, but no board", pairs(), STATE, 0);
        told("eight, but no board", pairs(), STATE, 0, 0, 0, 0, 0, 0, 0, 0);
        told("none for one", pairs(0), STATE);
        told("two for one", pairs(0), STATE, 0, 0);
        ShotBoard x = pairs(0, 1002, 1002, 2000, 0, 1002, 0);
        told("six for seven", x, STATE, 0, 0, 0, 0, 0, 0);
        told("eight for seven", x, STATE, 0, 0, 0, 0, 0, 0, 0, 0);
        told("seven for seven", x, 2, 0, 0, 1, 0, 0, 0, 0);
        x.board(1002, ANY, 0, 0);
        told("seven for eight", x, STATE, 0, 0, 0, 0, 0, 0, 0);
        told("none for eight", x, STATE);
        told("eight for eight", x, 3, 0, 0, 1, 0, 0, 0, 0, 1);
    }

    private static void promise23DoesNotGive() {
        check.on("promise 23, STATE: a CAMERA does not GIVE its BOARD (it is empty then, too)");
        ShotBoard x = pairs(1002, 0, 1002, 0, 1002, 0, 1002, 0);
        x.camera(IDLE, 0);
        for (int wrong = 0; wrong <= 7; wrong++) {
            int[] row = new int[8];
            row[wrong] = 2;
            told("the idle one at " + wrong, x, STATE, row);
        }
        told("all give", x, 0, 0, 0, 0, 0, 0, 0, 0, 0);
        Sets.tell(x, 0, 0, 0, 0, 0, 0, 0, 0);
        x.wall(IDLE, 0);
        check.due("a wall came after the list was told", x.crossings(), STATE);
        check.due("count(4)", x.count(4), 0);
        ShotBoard y = pairs(0);
        y.step(0, 59, LOW_MIDDLE);
        told("a step after the last tick", y, 0, 0);
        y.board(0, ANY, 59, 0);
        told("a step at the last tick", y, STATE, 0, 0);
        y.step(2, 59, 0);
        told("of the other camera, with nobody between", y, 0, 0, 1);
    }

    private static void promise23EmptyThen() {
        check.on("promise 23, THE LIST, which is empty then");
        ShotBoard x = pairs(1002, 1002);
        told("over the line", x, 1, 0, 1);
        check.due("crossings() again", x.crossings(), STATE);
        told("over it, the other way", x, 1, 1, 0);
        told("not over it", x, 0, 1, 1);
        Sets.tell(x, 0);
        x.crossings();
        told("what was told before STATE is gone", x, 0, 1, 1);
        x.drop();
        x.drop();
        told("all boards went", x, 0);
    }

    private static void promise23BoardsBetween() {
        check.on("promise 23, the next TWO (BOARDS between them that are none aside)");
        told("next to each other", pairs(1002, 1002), 1, 0, 1);
        told("a shot between", pairs(1002, 0, 1002), 1, 0, 0, 1);
        told("a long one between", pairs(1002, 2002, 1002), 1, 0, 1, 1);
        told("shots of both between", pairs(1002, 3, 103, 1002), 1, 1, 0, 1, 0);
        ShotBoard six = pairs(1002, 0, 2000, 100, 2100, 200, 2, 1002);
        told("six between", six, 1, 0, 1, 0, 1, 0, 1, 0, 1);
        told("six between, no cut over the line", six, 0, 0, 1, 1, 1, 1, 1, 1, 0);
        check.due("six between: a strict plan", six.fewest(), 1);
        told("each of seven cuts", pairs(1002, 1002, 1002, 1002, 1002, 1002, 1002, 1002), 7, 0, 1, 0, 1, 0, 1, 0, 1);
        told("a TWO of others is the next one", pairs(1002, 1004, 1002), 0, 0, 0, 1);
        told("a TWO of others, and after it", pairs(1002, 1004, 1002, 1002), 1, 0, 0, 1, 0);
        told("a TWO with one more to be seen", pairs(1002, 1006), 1, 0, 1);
        told("a TWO of m with another one", pairs(1101, 1104), 0, 0, 1);
        told("a TWO of two with the same least other one", pairs(1201, 1203), 1, 0, 1);
        told("a TWO of two with another least other one", pairs(1202, 1203), 0, 0, 1);
    }

    private static void promise23WhicheverIsMain() {
        check.on("promise 23, the same two SPEAKERS (whichever is m), told of the lesser number");
        ShotBoard x = pairs(1002, 1101, 1002);
        check.due("side(0, 0)", x.side(0, 0), -1);
        check.due("side(0, 1)", x.side(0, 1), 1);
        check.due("side(1, 1)", x.side(1, 1), -1);
        told("one camera", x, 0, 0, 0, 0);
        told("the other camera for the middle one", x, 2, 0, 1, 0);
        told("the other camera for the last one", x, 1, 0, 0, 1);
        check.due("a strict plan of one camera", x.fewest(), 1);
        told("m is the greater one twice", pairs(1101, 1101), 1, 0, 1);
        told("m is the greater one first", pairs(1101, 1002), 1, 1, 0);
    }

    private static void promise23NoSide() {
        check.on("promise 23, one 1 and the other -1: 0 crosses with none");
        ShotBoard x = new ShotBoard();
        x.person(1010);
        x.person(1410);
        x.camera(1204, 0);
        x.camera(1216, 0);
        x.step(1, 1, 1010);
        int[] spans = {0, 0, 101, 101, 0};
        for (int span : spans) {
            x.board(1002, ANY, span, 0);
        }
        check.due("side(0, 2)", x.side(0, 2), 0);
        told("to 0 and from 0", x, 0, 0, 0, 0, 1, 1);
        told("the other way", x, 0, 1, 1, 1, 0, 0);
        told("the first cut alone", x, 1, 1, 0, 0, 0, 1);
    }

    private static void promise23FirstTick() {
        check.on("promise 23, SIDES at the first TICK of each: one camera alone may cross");
        ShotBoard x = new ShotBoard();
        x.person(1010);
        x.person(1410);
        x.step(0, 5, 1410);
        x.step(1, 5, 1010);
        x.camera(1204, 0);
        x.board(1002, ANY, 4, 0);
        x.board(1002, ANY, 505, 0);
        told("they changed places", x, 1, 0, 0);
        check.due("no strict plan", x.fewest(), NO_PLAN);
        x.drop();
        x.board(1002, ANY, 405, 0);
        told("the next one begins before that", x, 0, 0, 0);
        check.due("a strict plan", x.fewest(), 1);
    }

    private static void promise24Arguments() {
        check.on("promise 24, no such CAMERA: NONE");
        for (int many = 0; many <= 10; many++) {
            int cameras = many;
            new Sweep(check, "list(n) of " + many, () -> Sets.camerasAndBoards(cameras, 0), (x, n) -> x.list(n))
                .numbers(0, many - 1, NONE, n -> 1);
        }
    }

    private static void promise24Full() {
        check.on("promise 24, FULL: 8");
        ShotBoard x = Sets.camerasAndBoards(10, 8);
        for (int i = 1; i <= 8; i++) {
            check.due("list " + i, x.list(9), i);
            check.due("count(4)", x.count(4), i);
        }
        check.due("a 9th", x.list(9), FULL);
        check.due("a 9th again", x.list(0), FULL);
        check.due("count(4)", x.count(4), 8);
        check.on("promise 24, NONE is named ahead of FULL");
        check.due("a 9th that is no camera", x.list(10), NONE);
        check.due("a 9th that is -1", x.list(-1), NONE);
        check.due("crossings()", x.crossings(), 0);
        check.due("list(9) then", x.list(9), 1);
    }

    private static void promise24Stays() {
        check.on("promise 24, THE LIST stays while other things come and go");
        ShotBoard x = pairs();
        Sets.tell(x, 0, 1, 1);
        x.board(1002, ANY, 0, 0);
        x.board(1002, ANY, 0, 0);
        x.drop();
        x.board(0, ANY, 0, 0);
        x.wall(0, 1);
        x.open();
        x.camera(0, 0);
        x.fewest();
        x.board(1002, ANY, 0, 0);
        check.due("count(4)", x.count(4), 3);
        check.due("crossings()", x.crossings(), 1);
    }

    private static void promise25Lengths() {
        check.on("promise 25, all LENGTHS: none, one, the most");
        check.due("a new object", new ShotBoard().run(), 0);
        ShotBoard x = Sets.persons(1);
        check.due("no boards", x.run(), 0);
        for (int b = 0; b <= 7; b++) {
            x.board(0, ANY, 0, 0);
            check.due("run() of " + (b + 1), x.run(), b + 1);
        }
        ShotBoard y = Sets.persons(1);
        for (int b = 0; b <= 7; b++) {
            y.board(0, ANY, 59, 200);
        }
        check.due("at rate 3", y.run(), 8 * 67);
        y.rate(1);
        check.due("at rate 1", y.run(), 1600);
        y.rate(20);
        check.due("at rate 20", y.run(), 480);
        for (int left = 7; left >= 0; left--) {
            y.drop();
            check.due("with " + left + " left", y.run(), 60 * left);
        }
    }

    private static ShotBoard longest() {
        ShotBoard x = Sets.persons(1);
        x.rate(1);
        for (int b = 0; b <= 7; b++) {
            x.board(0, ANY, 0, 200);
        }
        return x;
    }

    private static void promise26Arguments() {
        check.on("promise 26, no such FRAME: NONE; 0 at first");
        new Sweep(check, "frame(n) of no board", ShotBoard::new, (x, n) -> x.frame(n)).numbers(0, -1, NONE, n -> 0);
        new Sweep(check, "frame(n) of one frame", () -> Sets.camerasAndBoards(0, 1), (x, n) -> x.frame(n))
            .numbers(0, 0, NONE, n -> 0);
        new Sweep(check, "frame(n) of 1600", EdgesPlansTest::longest, (x, n) -> x.frame(n))
            .numbers(0, 1599, NONE, n -> n / 200);
    }

    private static void promise26EachFrame() {
        check.on("promise 26, the BOARD in which it falls, by LENGTHS, in order");
        int[] frames = new int[1 + 2 + 3 + 4 + 5 + 6 + 7 + 8];
        int f = 0;
        for (int b = 0; b <= 7; b++) {
            for (int i = 0; i <= b; i++) {
                frames[f] = b;
                f++;
            }
        }
        new Sweep(check, "frame(n)", () -> Sets.camerasAndBoards(0, 8), (x, n) -> x.frame(n))
            .numbers(0, frames.length - 1, NONE, n -> frames[n]);
        ShotBoard x = Sets.camerasAndBoards(0, 8);
        x.drop();
        check.due("the last frame after a drop", x.frame(27), 6);
        check.due("beyond it", x.frame(28), NONE);
        ShotBoard y = Sets.persons(1);
        y.board(0, ANY, 0, 7);
        y.board(0, ANY, 0, 0);
        check.due("frame(2) at rate 3", y.frame(2), 0);
        check.due("frame(3) at rate 3", y.frame(3), 1);
        check.due("frame(4) at rate 3", y.frame(4), NONE);
        y.rate(7);
        check.due("frame(0) at rate 7", y.frame(0), 0);
        check.due("frame(1) at rate 7", y.frame(1), 1);
        check.due("frame(2) at rate 7", y.frame(2), NONE);
    }

    private static void promise27Arguments() {
        check.on("promise 27, what is 0 .. 4, else NONE");
        new Sweep(check, "count(n)", ShotBoard::new, (x, n) -> x.count(n)).numbers(0, 4, NONE, n -> 0);
        new Sweep(check, "count(n) of some", () -> Sets.camerasAndBoards(3, 2), (x, n) -> x.count(n))
            .numbers(0, 4, NONE, n -> new int[] {1, 0, 3, 2, 0}[n]);
    }

    private static void promise27EachFull() {
        check.on("promise 27, each at its most: 6, 12, 10, 8, 8, and one more that is FULL");
        ShotBoard x = new ShotBoard();
        for (int i = 0; i < 13; i++) {
            x.person(1010);
            x.wall(0, 1);
            x.camera(2020, 0);
            x.board(0, ANY, 0, 0);
            x.list(0);
            int[] most = {6, 12, 10, 8, 8};
            for (int what = 0; what <= 4; what++) {
                check.due("count(" + what + ") after " + (i + 1), x.count(what), Math.min(i + 1, most[what]));
            }
        }
    }
}
