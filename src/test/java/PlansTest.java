/** Promises 19 to 27: fewest, plan, swings, order, crossings, list, run, frame, count. */
public final class PlansTest {
    private static final int NONE = -1, FULL = -2, STATE = -3, NO_PLAN = -5;
    private static final int CLOSE = 1, MIDDLE = 2, WIDE = 4, ANY = 7;
    private static final Check check = new Check("PlansTest");

    private PlansTest() {
    }

    public static void main(String[] args) {
        noBoards();
        noCamera();
        lesserCamera();
        fewerCameras();
        leastMask();
        firstRow();
        rowThatKeepsTheLine();
        strictCuts();
        cutsByLesserSpeaker();
        planFollowsChanges();
        swingsAndOrder();
        orderOfManyLights();
        crossings();
        crossingsOfEight();
        crossingsRefused();
        list();
        runAndFrame();
        count();
        check.end();
    }

    private static void plans(String what, ShotBoard x, int many, int... row) {
        check.due(what + ": fewest()", x.fewest(), many);
        for (int b = 0; b < row.length; b++) {
            check.due(what + ": plan(" + b + ")", x.plan(b), row[b]);
        }
        check.due(what + ": plan past the last", x.plan(row.length), NONE);
        check.due(what + ": plan(-1)", x.plan(-1), NONE);
    }

    private static void orders(String what, ShotBoard x, int swings, int... row) {
        check.due(what + ": swings()", x.swings(), swings);
        for (int i = 0; i < row.length; i++) {
            check.due(what + ": order(" + i + ")", x.order(i), row[i]);
        }
        check.due(what + ": order past the last", x.order(row.length), NONE);
        check.due(what + ": order(-1)", x.order(-1), NONE);
        check.due(what + ": order(MAX)", x.order(Integer.MAX_VALUE), NONE);
    }

    private static void noBoards() {
        ShotBoard x = new ShotBoard();
        plans("empty", x, 0);
        orders("empty", x, 0);
        x.person(1010);
        x.camera(1014, 0);
        plans("a camera alone", x, 0);
        x.board(0, ANY, 0, 0);
        plans("a board", x, 1, 0);
        x.drop();
        plans("the board went", x, 0);
        orders("the board went", x, 0);
    }

    private static void noCamera() {
        ShotBoard x = new ShotBoard();
        x.person(1010);
        x.board(0, ANY, 0, 0);
        plans("no camera at all", x, NO_PLAN, NO_PLAN);
        orders("no camera at all", x, NO_PLAN);
        x.camera(1020, 0);
        x.board(0, CLOSE, 0, 0);
        plans("no camera for one board", x, NO_PLAN, NO_PLAN, NO_PLAN);
        orders("no camera for one board", x, NO_PLAN);
    }

    private static void lesserCamera() {
        ShotBoard x = new ShotBoard();
        x.person(1010);
        for (int c = 0; c < 10; c++) {
            x.camera(1020 + c, 0);
        }
        x.board(0, WIDE, 0, 0);
        x.board(0, ANY, 0, 0);
        plans("camera 0 is middle, 1 is the first that gives both", x, 1, 1, 1);
        x.board(0, MIDDLE, 0, 0);
        plans("camera 0 and the first of the rest", x, 2, 1, 0, 0);
    }

    /** One person at (10, 10); cameras: two close, two middle, two wide. */
    private static ShotBoard byDistance() {
        ShotBoard x = new ShotBoard();
        x.person(1010);
        x.camera(1012, 0);
        x.camera(1008, 1);
        x.camera(1018, 2);
        x.camera(1002, 3);
        x.camera(1030, 1);
        x.camera(3110, 1);
        return x;
    }

    private static void fewerCameras() {
        ShotBoard x = byDistance();
        x.board(0, CLOSE | WIDE, 0, 0);
        x.board(0, MIDDLE | WIDE, 0, 0);
        plans("one wide is fewer than a close and a middle", x, 1, 4, 4);
        x.board(0, CLOSE | MIDDLE, 0, 0);
        plans("two, with the least mask", x, 2, 0, 2, 0);
        x.board(0, WIDE, 0, 0);
        plans("a wide one is needed now", x, 2, 0, 4, 0, 4);
        x.board(0, CLOSE, 0, 0);
        x.board(0, MIDDLE, 0, 0);
        plans("three", x, 3, 0, 2, 0, 4, 0, 2);
    }

    /** Speakers at (10, 10) and (14, 10), a third one at (12, 10); see the comments for the cameras' sides. */
    private static ShotBoard speakers() {
        ShotBoard x = new ShotBoard();
        x.person(1010);
        x.person(1410);
        x.person(1210);
        return x;
    }

    private static void leastMask() {
        ShotBoard x = speakers();
        x.camera(1204, 0); // -1, middle
        x.camera(1216, 0); // 1, middle
        x.camera(1225, 0); // 1, wide
        x.camera(1200, 0); // -1, wide
        x.board(1002, MIDDLE, 0, 0);
        x.board(1002, WIDE, 0, 0);
        plans("0 and 2 cross; 1 and 2 have a lesser mask than 0 and 3", x, 2, 1, 2);
    }

    private static void firstRow() {
        ShotBoard x = byDistance();
        x.board(0, ANY, 0, 0);
        x.board(0, WIDE, 0, 0);
        x.board(0, CLOSE, 0, 0);
        x.board(0, ANY, 0, 0);
        plans("the lesser camera wherever both give it", x, 2, 0, 4, 0, 0);
    }

    private static void rowThatKeepsTheLine() {
        ShotBoard x = speakers();
        x.camera(1204, 0); // -1, middle
        x.camera(1225, 0); // 1, wide
        x.board(1002, MIDDLE | WIDE, 0, 0);
        x.board(1002, WIDE, 0, 0);
        x.board(0, MIDDLE, 0, 0);
        plans("the first board must be on the side of the second", x, 2, 1, 1, 0);
        x.board(1002, MIDDLE | WIDE, 0, 0);
        plans("and so must one after a shot", x, 2, 1, 1, 0, 1);
    }

    private static void strictCuts() {
        ShotBoard x = speakers();
        x.camera(1204, 0); // -1, middle
        x.camera(1225, 0); // 1, wide
        x.board(1002, MIDDLE, 0, 0);
        x.board(1002, WIDE, 0, 0);
        plans("over the line", x, NO_PLAN, NO_PLAN, NO_PLAN);
        x.drop();
        x.board(0, ANY, 0, 0);
        x.board(2000, ANY, 0, 0);
        x.board(1002, WIDE, 0, 0);
        plans("a shot and a long one between change nothing", x, NO_PLAN, NO_PLAN, NO_PLAN, NO_PLAN, NO_PLAN);
        x.drop();
        x.board(1004, MIDDLE, 0, 0);
        x.board(1002, WIDE, 0, 0);
        plans("a two of others between: no cut with the same speakers", x, 2, 0, 0, 0, 0, 1);
        x.drop();
        x.drop();
        x.board(1006, WIDE, 0, 0);
        plans("a third one that must be seen is no speaker", x, NO_PLAN, NO_PLAN, NO_PLAN, NO_PLAN, NO_PLAN);
    }

    private static void cutsByLesserSpeaker() {
        ShotBoard x = speakers();
        x.camera(1204, 0); // -1, middle
        x.camera(1225, 0); // 1, wide
        x.camera(1200, 0); // -1, wide
        x.board(1002, MIDDLE, 0, 0);
        x.board(1101, WIDE, 0, 0);
        plans("the other one is m: the same line", x, 2, 0, 2);
        x.list(0);
        x.list(1);
        check.due("the other one is m: crossings()", x.crossings(), 1);
        x.list(0);
        x.list(2);
        check.due("the other one is m, same side: crossings()", x.crossings(), 0);
    }

    private static void planFollowsChanges() {
        ShotBoard x = new ShotBoard();
        x.person(1010);
        x.camera(1014, 0);
        x.board(0, ANY, 9, 0);
        plans("at first", x, 1, 0);
        x.wall(1012, 1112);
        plans("a wall came", x, NO_PLAN, NO_PLAN);
        x.open();
        plans("the wall went", x, 1, 0);
        x.person(1011);
        plans("a person came between", x, NO_PLAN, NO_PLAN);
        x.camera(1410, 0);
        plans("a camera came", x, 1, 1);
        x.step(0, 5, 1410);
        plans("a step to the camera", x, NO_PLAN, NO_PLAN);
        x.step(0, 5, 1510);
        plans("a step in its place", x, 1, 1);
        x.board(0, CLOSE, 0, 0);
        x.board(0, WIDE, 0, 0);
        plans("a board came", x, NO_PLAN, NO_PLAN, NO_PLAN, NO_PLAN);
        x.drop();
        plans("that board went", x, 1, 1, 1);
        x.rate(9);
        x.list(0);
        plans("rate and list change nothing", x, 1, 1, 1);
    }

    private static void swingsAndOrder() {
        ShotBoard x = byDistance();
        x.board(0, CLOSE, 0, 0);
        x.board(0, MIDDLE, 0, 0);
        x.board(0, WIDE, 0, 0);
        x.board(0, WIDE, 0, 0);
        x.board(0, CLOSE, 0, 0);
        plans("three lights", x, 3, 0, 2, 4, 4, 0);
        orders("three lights", x, 3, 0, 2, 4);
    }

    private static void orderOfManyLights() {
        int[] fourLights = {2, 0, 1, 0, 2, 1, 3, 2};
        ShotBoard x = alone(fourLights);
        plans("each board has its own camera", x, 8, 0, 1, 2, 3, 4, 5, 6, 7);
        orders("each board has its own camera", x, 7, 0, 4, 7, 1, 3, 2, 5, 6);
        int[] threeLights = {1, 1, 3, 3, 1, 1, 1, 0};
        ShotBoard y = alone(threeLights);
        orders("three lights among eight", y, 3, 0, 1, 4, 5, 6, 2, 3, 7);
    }

    /** Eight cameras far from one another, and a person that comes close to each at a tick of its own. */
    private static ShotBoard alone(int[] lights) {
        ShotBoard x = new ShotBoard();
        int[] places = {0, 1000, 2000, 3000, 20, 1020, 2020, 3020};
        x.person(places[0] + 1);
        for (int c = 0; c < 8; c++) {
            x.camera(places[c], lights[c]);
            if (c > 0) {
                x.step(0, c, places[c] + 1);
            }
            x.board(0, CLOSE, 101 * c, 0);
        }
        return x;
    }

    private static void tell(ShotBoard x, int... cameras) {
        for (int c : cameras) {
            x.list(c);
        }
    }

    private static void crossings() {
        ShotBoard x = speakers();
        x.camera(1204, 0); // -1
        x.camera(1225, 0); // 1
        check.due("no boards, no list", x.crossings(), 0);
        x.board(1002, ANY, 0, 0);
        x.board(1101, ANY, 0, 0);
        x.board(0, ANY, 0, 0);
        x.board(1002, ANY, 0, 0);
        tell(x, 0, 1, 0, 0);
        check.due("to and fro", x.crossings(), 2);
        check.due("the list is empty then", x.count(4), 0);
        tell(x, 0, 0, 1, 0);
        check.due("a shot's camera does not count", x.crossings(), 0);
        tell(x, 1, 1, 0, 0);
        check.due("over a shot", x.crossings(), 1);
        x.board(1004, ANY, 0, 0);
        x.board(1002, ANY, 0, 0);
        tell(x, 1, 1, 0, 1, 0, 0);
        check.due("a two of others between", x.crossings(), 0);
        x.board(1002, ANY, 0, 0);
        tell(x, 1, 1, 0, 1, 0, 0, 1);
        check.due("after it", x.crossings(), 1);
        crossingsByTheLine();
    }

    private static void crossingsOfEight() {
        ShotBoard x = speakers();
        x.camera(1204, 0);
        x.camera(1225, 0);
        for (int b = 0; b < 8; b++) {
            x.board(1002, ANY, 0, 0);
        }
        tell(x, 0, 1, 0, 1, 0, 1, 0, 1);
        check.due("eight boards, each cut crosses", x.crossings(), 7);
        tell(x, 1, 1, 1, 1, 1, 1, 1, 1);
        check.due("eight boards of one camera", x.crossings(), 0);
        x.drop();
        tell(x, 1, 1, 1, 1, 1, 1, 0, 1);
        check.due("eight for seven boards", x.crossings(), STATE);
        tell(x, 1, 1, 1, 1, 1, 1, 0);
        check.due("seven boards", x.crossings(), 1);
        tell(x, 1, 1, 1, 1, 1, 1, 0);
        x.list(1);
        x.board(1002, ANY, 0, 0);
        check.due("the last one again", x.crossings(), 2);
    }

    private static void crossingsByTheLine() {
        ShotBoard x = new ShotBoard();
        x.person(1010);
        x.person(1010);
        x.step(1, 1, 1410);
        x.step(1, 2, 1010);
        x.step(1, 3, 1410);
        x.camera(1204, 0);
        x.camera(1225, 0);
        x.board(1002, ANY, 101, 0);
        x.board(1002, ANY, 202, 0);
        x.board(1002, ANY, 303, 0);
        tell(x, 0, 0, 1);
        check.due("from -1 by way of 0 to 1", x.crossings(), 0);
        plans("no cut with 0 crosses", x, 1, 0, 0, 0);
    }

    private static void crossingsRefused() {
        ShotBoard x = speakers();
        x.camera(1204, 0);
        x.camera(1210, 0);
        check.due("list(0)", x.list(0), 1);
        check.due("a list, but no board", x.crossings(), STATE);
        check.due("the list is empty", x.count(4), 0);
        x.board(1002, ANY, 0, 0);
        check.due("a board, but no list", x.crossings(), STATE);
        x.board(1002, ANY, 0, 0);
        x.list(0);
        check.due("one for two boards", x.crossings(), STATE);
        check.due("the list is empty then, too", x.count(4), 0);
        tell(x, 0, 0, 0);
        check.due("three for two boards", x.crossings(), STATE);
        check.due("the list is empty after three", x.count(4), 0);
        tell(x, 0, 1);
        check.due("the last camera does not give its board", x.crossings(), STATE);
        check.due("the list is empty after that", x.count(4), 0);
        tell(x, 0, 0);
        check.due("as it should be", x.crossings(), 0);
        check.due("the boards stay", x.count(3), 2);
    }

    private static void list() {
        ShotBoard x = new ShotBoard();
        check.due("list(0) with no camera", x.list(0), NONE);
        x.camera(0, 0);
        check.due("list(1)", x.list(1), NONE);
        check.due("list(-1)", x.list(-1), NONE);
        check.due("list(MAX)", x.list(Integer.MAX_VALUE), NONE);
        for (int i = 1; i <= 8; i++) {
            check.due("list(0), the " + i + ". time", x.list(0), i);
        }
        check.due("a 9th", x.list(0), FULL);
        check.due("a 9th that is no camera", x.list(1), NONE);
        check.due("count(4)", x.count(4), 8);
        check.due("crossings()", x.crossings(), STATE);
        check.due("list(0) then", x.list(0), 1);
    }

    private static void runAndFrame() {
        ShotBoard x = new ShotBoard();
        x.person(1010);
        check.due("no boards: run()", x.run(), 0);
        check.due("no boards: frame(0)", x.frame(0), NONE);
        x.board(0, ANY, 2, 0);
        x.board(0, ANY, 5, 0);
        x.board(0, ANY, 0, 10);
        x.board(0, ANY, 0, 0);
        check.due("run()", x.run(), 3 + 6 + 4 + 1);
        int[] frames = {0, 2, 3, 8, 9, 12, 13};
        int[] boards = {0, 0, 1, 1, 2, 2, 3};
        for (int i = 0; i < frames.length; i++) {
            check.due("frame(" + frames[i] + ")", x.frame(frames[i]), boards[i]);
        }
        check.due("frame(14)", x.frame(14), NONE);
        check.due("frame(-1)", x.frame(-1), NONE);
        check.due("frame(MIN)", x.frame(Integer.MIN_VALUE), NONE);
        check.due("frame(MAX)", x.frame(Integer.MAX_VALUE), NONE);
        x.rate(1);
        check.due("run() at rate 1", x.run(), 3 + 6 + 10 + 1);
        check.due("frame(13) at rate 1", x.frame(13), 2);
        check.due("frame(19) at rate 1", x.frame(19), 3);
        x.drop();
        check.due("run() without the last", x.run(), 19);
        check.due("frame(19) without the last", x.frame(19), NONE);
        for (int i = 0; i < 5; i++) {
            x.board(0, ANY, 0, 200);
        }
        check.due("the longest run", x.run(), 19 + 5 * 200);
        check.due("its last frame", x.frame(1018), 7);
        check.due("beyond it", x.frame(1019), NONE);
    }

    private static void count() {
        ShotBoard x = new ShotBoard();
        x.person(1010);
        x.person(1012);
        x.wall(0, 1);
        x.wall(0, 2);
        x.wall(0, 3);
        x.camera(1000, 0);
        for (int i = 0; i < 4; i++) {
            x.board(0, ANY, 0, 0);
        }
        for (int i = 0; i < 5; i++) {
            x.list(0);
        }
        int[] want = {2, 3, 1, 4, 5};
        for (int what = 0; what < 5; what++) {
            check.due("count(" + what + ")", x.count(what), want[what]);
        }
        check.due("count(5)", x.count(5), NONE);
        check.due("count(-1)", x.count(-1), NONE);
        check.due("count(MIN)", x.count(Integer.MIN_VALUE), NONE);
        check.due("count(MAX)", x.count(Integer.MAX_VALUE), NONE);
    }
}
