/** Promises 1 to 9: a new object, and the calls that tell of persons, walls, cameras, boards and the rate. */
public final class SetupTest {
    private static final int NONE = -1, FULL = -2, STATE = -3;
    private static final int[] NO_PLACES = {-1, -100, -3131, 32, 99, 132, 3132, 3200, 3232, 100000,
        Integer.MIN_VALUE, Integer.MAX_VALUE};
    private static final Check check = new Check("SetupTest");

    private SetupTest() {
    }

    public static void main(String[] args) {
        newObject();
        person();
        step();
        wallAndOpen();
        camera();
        board();
        boardWithOnePerson();
        drop();
        rate();
        check.end();
    }

    private static void newObject() {
        ShotBoard x = new ShotBoard();
        for (int what = 0; what <= 4; what++) {
            check.due("new: count(" + what + ")", x.count(what), 0);
        }
        check.due("new: where(0, 0)", x.where(0, 0), NONE);
        check.due("new: size(0, 0, 0)", x.size(0, 0, 0), NONE);
        check.due("new: length(0)", x.length(0), NONE);
        check.due("new: plan(0)", x.plan(0), NONE);
        check.due("new: list(0)", x.list(0), NONE);
        check.due("new: fewest()", x.fewest(), 0);
        check.due("new: run()", x.run(), 0);
        ShotBoard other = new ShotBoard();
        x.person(5);
        x.wall(0, 1);
        x.rate(9);
        check.due("another object: count(0)", other.count(0), 0);
        check.due("another object: count(1)", other.count(1), 0);
        check.due("another object: rate(1)", other.rate(1), 3);
    }

    private static void person() {
        ShotBoard x = new ShotBoard();
        for (int place : NO_PLACES) {
            check.due("person(" + place + ")", x.person(place), NONE);
        }
        check.due("count(0) after refused ones", x.count(0), 0);
        int[] places = {0, 31, 3100, 3131, 1505, 1505};
        for (int i = 0; i < 6; i++) {
            check.due("person(" + places[i] + ")", x.person(places[i]), i);
        }
        check.due("a 7th person", x.person(7), FULL);
        check.due("a 7th person at no place", x.person(32), NONE);
        check.due("count(0)", x.count(0), 6);
        for (int i = 0; i < 6; i++) {
            check.due("where(" + i + ", 0)", x.where(i, 0), places[i]);
            check.due("where(" + i + ", 59)", x.where(i, 59), places[i]);
        }
    }

    private static void step() {
        ShotBoard x = new ShotBoard();
        x.person(1010);
        x.person(2020);
        check.due("step of no person", x.step(2, 5, 0), NONE);
        check.due("step of person -1", x.step(-1, 5, 0), NONE);
        check.due("step at tick 0", x.step(0, 0, 0), NONE);
        check.due("step at tick -1", x.step(0, -1, 0), NONE);
        check.due("step at tick 60", x.step(0, 60, 0), NONE);
        for (int place : NO_PLACES) {
            check.due("step(0, 5, " + place + ")", x.step(0, 5, place), NONE);
        }
        check.due("where(0, 59) after refused ones", x.where(0, 59), 1010);
        check.due("step(0, 59, 1)", x.step(0, 59, 1), 1);
        check.due("step(0, 1, 2)", x.step(0, 1, 2), 2);
        check.due("where(0, 0)", x.where(0, 0), 1010);
        check.due("where(0, 1)", x.where(0, 1), 2);
        check.due("where(0, 58)", x.where(0, 58), 2);
        check.due("where(0, 59)", x.where(0, 59), 1);
        check.due("step(0, 1, 3131): in its place", x.step(0, 1, 3131), 2);
        check.due("where(0, 58) then", x.where(0, 58), 3131);
        check.due("where(0, 59) then", x.where(0, 59), 1);
        for (int i = 0; i < 10; i++) {
            check.due("step " + (i + 3), x.step(0, 10 + i, 100 * i), i + 3);
        }
        check.due("a 13th step", x.step(0, 40, 5), FULL);
        check.due("a 13th step to no place", x.step(0, 40, 32), NONE);
        check.due("where(0, 40) after the 13th", x.where(0, 40), 900);
        check.due("a step in the place of one of 12", x.step(0, 19, 6), 12);
        check.due("where(0, 40) after that", x.where(0, 40), 6);
        check.due("where(0, 18) after that", x.where(0, 18), 800);
        check.due("where(1, 40): another person", x.where(1, 40), 2020);
        check.due("step(1, 40, 5): another person", x.step(1, 40, 5), 1);
    }

    private static void wallAndOpen() {
        ShotBoard x = new ShotBoard();
        check.due("open() with no wall", x.open(), STATE);
        for (int place : NO_PLACES) {
            check.due("wall(" + place + ", 0)", x.wall(place, 0), NONE);
            check.due("wall(0, " + place + ")", x.wall(0, place), NONE);
        }
        check.due("wall(505, 505)", x.wall(505, 505), NONE);
        check.due("count(1) after refused ones", x.count(1), 0);
        for (int i = 0; i < 12; i++) {
            check.due("wall " + i, x.wall(3100 + i, i), i);
        }
        check.due("a 13th wall", x.wall(0, 3131), FULL);
        check.due("a 13th wall from a place to itself", x.wall(7, 7), NONE);
        check.due("a 13th wall to no place", x.wall(7, 32), NONE);
        check.due("count(1)", x.count(1), 12);
        for (int left = 11; left >= 0; left--) {
            check.due("open()", x.open(), left);
        }
        check.due("open() with no wall left", x.open(), STATE);
        check.due("count(1) at the end", x.count(1), 0);
        theLastWallGoes();
    }

    private static void theLastWallGoes() {
        ShotBoard x = new ShotBoard();
        x.person(1010);
        x.wall(500, 531);
        x.wall(2000, 2031);
        check.due("hidden behind the first wall", x.hidden(0, 0, 10), 1);
        check.due("hidden behind the last wall", x.hidden(0, 0, 3010), 1);
        check.due("open()", x.open(), 1);
        check.due("hidden behind the first wall still", x.hidden(0, 0, 10), 1);
        check.due("not hidden behind the wall that went", x.hidden(0, 0, 3010), 0);
        check.due("wall in its place", x.wall(1005, 1105), 1);
        check.due("hidden behind the new one", x.hidden(0, 0, 1000), 1);
        check.due("not hidden where the old one was", x.hidden(0, 0, 3010), 0);
    }

    private static void camera() {
        ShotBoard x = new ShotBoard();
        for (int place : NO_PLACES) {
            check.due("camera(" + place + ", 0)", x.camera(place, 0), NONE);
        }
        check.due("camera(0, -1)", x.camera(0, -1), NONE);
        check.due("camera(0, 4)", x.camera(0, 4), NONE);
        check.due("count(2) after refused ones", x.count(2), 0);
        for (int i = 0; i < 10; i++) {
            check.due("camera " + i, x.camera(3131 - i, i % 4), i);
        }
        check.due("an 11th camera", x.camera(0, 0), FULL);
        check.due("an 11th camera at no place", x.camera(32, 0), NONE);
        check.due("an 11th camera with no light", x.camera(0, 4), NONE);
        check.due("count(2)", x.count(2), 10);
    }

    private static void board() {
        ShotBoard x = new ShotBoard();
        check.due("board with nobody", x.board(0, 7, 0, 0), NONE);
        x.person(1010);
        x.person(1012);
        x.person(1014);
        int[] wrongWho = {-1, -1000, 3000, 3001, 300, 1300, 900, 8, 64, 99, 1000, 1001, 1102, 1204,
            Integer.MIN_VALUE, Integer.MAX_VALUE};
        for (int who : wrongWho) {
            check.due("board(" + who + ", 7, 0, 0)", x.board(who, 7, 0, 0), NONE);
        }
        int[] wrongSizes = {0, 8, -1, Integer.MIN_VALUE, Integer.MAX_VALUE};
        for (int sizes : wrongSizes) {
            check.due("board(0, " + sizes + ", 0, 0)", x.board(0, sizes, 0, 0), NONE);
        }
        int[] wrongSpans = {-1, 60, 99, 100, 201, 5958, 5960, 6000, 6060, 10059,
            Integer.MIN_VALUE, Integer.MAX_VALUE};
        for (int span : wrongSpans) {
            check.due("board(0, 7, " + span + ", 0)", x.board(0, 7, span, 0), NONE);
        }
        int[] wrongWords = {-1, 201, Integer.MIN_VALUE, Integer.MAX_VALUE};
        for (int words : wrongWords) {
            check.due("board(0, 7, 0, " + words + ")", x.board(0, 7, 0, words), NONE);
        }
        check.due("count(3) after refused ones", x.count(3), 0);
        int[] who = {0, 7, 204, 1002, 1207, 2000, 2207, 1101};
        int[] spans = {0, 59, 5959, 101, 102, 1059, 2020, 3031};
        for (int i = 0; i < 8; i++) {
            check.due("board " + i, x.board(who[i], 1 + i % 7, spans[i], 25 * i), i);
        }
        check.due("a 9th board", x.board(0, 7, 0, 0), FULL);
        check.due("a 9th board with no size", x.board(0, 0, 0, 0), NONE);
        check.due("a 9th board of nobody", x.board(300, 7, 0, 0), NONE);
        check.due("count(3)", x.count(3), 8);
    }

    private static void boardWithOnePerson() {
        ShotBoard x = new ShotBoard();
        x.person(1010);
        check.due("a two of one person", x.board(1001, 7, 0, 0), NONE);
        check.due("a board of who came later", x.board(2, 7, 0, 0), NONE);
        x.person(1110);
        check.due("a two of two persons", x.board(1002, 7, 0, 0), 0);
        check.due("a board of who is there now", x.board(2, 7, 0, 0), 1);
        x.camera(1000, 0);
        x.wall(905, 1005);
        check.due("m must be seen though the mask leaves it out", x.why(0, 1), 10);
    }

    private static void drop() {
        ShotBoard x = new ShotBoard();
        check.due("drop() with no board", x.drop(), STATE);
        x.person(1010);
        x.board(0, 7, 4, 0);
        x.board(0, 7, 9, 0);
        check.due("drop()", x.drop(), 1);
        check.due("length of a board that went", x.length(1), NONE);
        check.due("length of the one that stays", x.length(0), 5);
        check.due("board in its place", x.board(0, 7, 2, 0), 1);
        check.due("length of the new one", x.length(1), 3);
        check.due("drop()", x.drop(), 1);
        check.due("drop()", x.drop(), 0);
        check.due("drop() with no board left", x.drop(), STATE);
        check.due("count(3)", x.count(3), 0);
        check.due("board after all went", x.board(0, 7, 1, 0), 0);
    }

    private static void rate() {
        ShotBoard x = new ShotBoard();
        check.due("rate(0)", x.rate(0), NONE);
        check.due("rate(21)", x.rate(21), NONE);
        check.due("rate(-1)", x.rate(-1), NONE);
        check.due("rate(MIN)", x.rate(Integer.MIN_VALUE), NONE);
        check.due("rate(MAX)", x.rate(Integer.MAX_VALUE), NONE);
        check.due("rate(20)", x.rate(20), 3);
        check.due("rate(1)", x.rate(1), 20);
        check.due("rate(7)", x.rate(7), 1);
        check.due("rate(22)", x.rate(22), NONE);
        check.due("rate(8)", x.rate(8), 7);
    }
}
