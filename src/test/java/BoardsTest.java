/** Promises 15 to 18: gives, why, side, length. */
public final class BoardsTest {
    private static final int NONE = -1, NO_SIDE = -9;
    private static final Check check = new Check("BoardsTest");

    private BoardsTest() {
    }

    public static void main(String[] args) {
        reasons();
        firstReason();
        leastTick();
        othersComeBetween();
        sixInOneBoard();
        longOnes();
        sideWithinLong();
        wrongNumbers();
        side();
        sideAtFirstTick();
        length();
        check.end();
    }

    private static void whyAndGives(ShotBoard x, String what, int camera, int board, int want) {
        check.due(what + ": why", x.why(camera, board), want);
        check.due(what + ": gives", x.gives(camera, board), want == 0 ? 1 : 0);
    }

    private static void reasons() {
        ShotBoard x = new ShotBoard();
        x.camera(1010, 0);
        x.person(1510);
        x.person(1512);
        x.person(1520);
        x.person(2010);
        x.board(0, 2, 0, 0);
        whyAndGives(x, "m alone, middle", 0, 0, 0);
        x.board(0, 5, 0, 0);
        whyAndGives(x, "close or wide asked", 0, 1, 30);
        x.board(2, 7, 0, 0);
        whyAndGives(x, "two within the cone", 0, 2, 0);
        x.board(4, 7, 0, 0);
        whyAndGives(x, "one beyond the cone", 0, 3, 22);
        x.board(8, 7, 0, 0);
        whyAndGives(x, "one behind m", 0, 4, 13);
        x.board(300, 7, 5, 0);
        whyAndGives(x, "m behind another", 0, 5, 13);
        x.board(300, 7, 5959, 0);
        whyAndGives(x, "at tick 59", 0, 6, 5913);
        x.board(1002, 7, 59, 200);
        whyAndGives(x, "a two over all ticks", 0, 7, 0);
        x.wall(1110, 1210);
        whyAndGives(x, "m behind a wall", 0, 0, 10);
        whyAndGives(x, "m and size: m first", 0, 1, 10);
        x.open();
        whyAndGives(x, "the wall went", 0, 0, 0);
        x.camera(1510, 0);
        whyAndGives(x, "the camera stands at m", 1, 0, 10);
    }

    private static void firstReason() {
        ShotBoard x = new ShotBoard();
        x.camera(1010, 0);
        x.person(1030);
        x.person(1810);
        x.person(1812);
        x.wall(1709, 1710);
        x.board(203, 1, 0, 0);
        whyAndGives(x, "0 beyond, 1 hidden, size wrong: hidden comes first", 0, 0, 11);
        x.board(201, 1, 0, 0);
        whyAndGives(x, "0 beyond, size wrong: beyond comes first", 0, 1, 20);
        x.open();
        whyAndGives(x, "0 beyond, 1 not hidden now", 0, 0, 20);
        x.board(202, 1, 0, 0);
        whyAndGives(x, "size alone", 0, 2, 30);
        x.wall(1705, 1720);
        x.board(206, 7, 0, 0);
        whyAndGives(x, "1 and 2 hidden: the lesser number", 0, 3, 11);
        x.camera(1810, 1);
        whyAndGives(x, "the camera stands at 1", 1, 3, 11);
        x.camera(1812, 1);
        x.open();
        whyAndGives(x, "the camera stands at m: hidden before the angle of others", 2, 3, 12);
    }

    private static void leastTick() {
        ShotBoard x = new ShotBoard();
        x.camera(1010, 0);
        x.person(1410);
        x.person(1412);
        x.step(0, 10, 1510);
        x.step(0, 20, 1410);
        x.step(1, 15, 1416);
        x.board(2, 1, 30, 0);
        whyAndGives(x, "the size fails ahead of the cone", 0, 0, 1030);
        x.board(2, 1, 1230, 0);
        whyAndGives(x, "the first tick of the board", 0, 1, 1230);
        x.board(2, 1, 9, 0);
        whyAndGives(x, "it ends before", 0, 2, 0);
        x.board(2, 1, 10, 0);
        whyAndGives(x, "it ends at the tick that fails", 0, 3, 1030);
        x.board(2, 3, 59, 0);
        whyAndGives(x, "then the cone", 0, 4, 1521);
        x.board(0, 1, 2059, 0);
        whyAndGives(x, "m is back", 0, 5, 0);
        x.step(1, 5, 1310);
        whyAndGives(x, "a step told later hides m", 0, 2, 510);
    }

    private static void othersComeBetween() {
        ShotBoard x = new ShotBoard();
        x.camera(1010, 0);
        x.person(2010);
        x.person(1520);
        x.board(0, 7, 59, 0);
        whyAndGives(x, "nobody moves", 0, 0, 0);
        x.step(1, 59, 1510);
        whyAndGives(x, "one that need not be seen comes between at the last tick", 0, 0, 5910);
        x.step(1, 33, 1110);
        whyAndGives(x, "and earlier", 0, 0, 3310);
    }

    private static void sixInOneBoard() {
        ShotBoard x = new ShotBoard();
        x.camera(10, 0);
        for (int p = 0; p < 6; p++) {
            x.person(2008 + p);
        }
        x.board(2263, 7, 59, 0);
        whyAndGives(x, "all six, over all ticks", 0, 0, 0);
        x.step(5, 58, 2009);
        whyAndGives(x, "the last one comes to the other side", 0, 0, 5840);
        x.step(5, 57, 2031);
        whyAndGives(x, "the last one is beyond the cone", 0, 0, 5725);
    }

    private static void longOnes() {
        ShotBoard x = new ShotBoard();
        x.camera(10, 0);
        x.person(1010);
        x.person(1012);
        x.step(1, 5, 1008);
        x.board(2002, 7, 9, 0);
        whyAndGives(x, "long, over the line", 0, 0, 540);
        x.board(2, 7, 9, 0);
        whyAndGives(x, "a shot may", 0, 1, 0);
        x.board(1002, 7, 9, 0);
        whyAndGives(x, "a two may", 0, 2, 0);
        x.board(2002, 7, 509, 0);
        whyAndGives(x, "from the tick on", 0, 3, 0);
        x.board(2002, 7, 4, 0);
        whyAndGives(x, "up to the tick before", 0, 4, 0);
        x.board(2002, 7, 405, 0);
        whyAndGives(x, "these two ticks", 0, 5, 540);
        x.board(2000, 7, 9, 0);
        whyAndGives(x, "the other one need not be seen", 0, 6, 0);
        x.board(2002, 1, 505, 0);
        whyAndGives(x, "the size of a long one", 0, 7, 530);
        x.step(0, 5, 1006);
        whyAndGives(x, "m goes beyond as well", 0, 0, 0);
        x.step(1, 5, 1012);
        x.step(0, 5, 1014);
        whyAndGives(x, "m alone goes over the other's direction", 0, 0, 540);
        x.step(0, 6, 3);
        whyAndGives(x, "a later failure does not hide the first", 0, 0, 540);
    }

    private static void sideWithinLong() {
        ShotBoard x = new ShotBoard();
        x.camera(10, 0);
        x.person(1010);
        x.person(1012);
        x.step(1, 3, 1010);
        x.step(1, 5, 1008);
        x.board(2002, 7, 9, 0);
        whyAndGives(x, "by way of the line itself, which is no side", 0, 0, 0);
        x.step(1, 3, 1015);
        whyAndGives(x, "on the same side, then over", 0, 0, 540);
        x.step(1, 7, 1011);
        whyAndGives(x, "the first of two", 0, 0, 540);
        x.board(2002, 6, 509, 0);
        whyAndGives(x, "the second of two", 0, 1, 740);
        x.step(0, 7, 410);
        whyAndGives(x, "size ahead of the side", 0, 1, 730);
    }

    private static void wrongNumbers() {
        ShotBoard x = new ShotBoard();
        x.person(1010);
        x.camera(1014, 0);
        x.board(0, 7, 0, 0);
        int[] no = {-1, 1, 9, Integer.MIN_VALUE, Integer.MAX_VALUE};
        for (int n : no) {
            check.due("gives(" + n + ", 0)", x.gives(n, 0), NONE);
            check.due("gives(0, " + n + ")", x.gives(0, n), NONE);
            check.due("why(" + n + ", 0)", x.why(n, 0), NONE);
            check.due("why(0, " + n + ")", x.why(0, n), NONE);
            check.due("side(" + n + ", 0)", x.side(n, 0), NO_SIDE);
            check.due("side(0, " + n + ")", x.side(0, n), NO_SIDE);
            check.due("length(" + n + ")", x.length(n), NONE);
        }
        x.drop();
        check.due("gives of a board that went", x.gives(0, 0), NONE);
        check.due("why of a board that went", x.why(0, 0), NONE);
        check.due("side of a board that went", x.side(0, 0), NO_SIDE);
    }

    private static void side() {
        ShotBoard x = new ShotBoard();
        x.person(1010);
        x.person(2010);
        x.person(1010);
        x.person(1020);
        x.camera(1505, 0);
        x.camera(1515, 0);
        x.camera(3110, 0);
        x.camera(1010, 0);
        x.camera(10, 0);
        x.board(1002, 7, 0, 0);
        x.board(1101, 7, 0, 0);
        x.board(1004, 7, 0, 0);
        x.board(1008, 7, 0, 0);
        x.board(1314, 7, 0, 0);
        x.board(2, 7, 0, 0);
        x.board(2002, 7, 0, 0);
        int[] first = {-1, 1, 0, 0, 0};
        for (int c = 0; c < 5; c++) {
            check.due("side(" + c + ", 0)", x.side(c, 0), first[c]);
            check.due("side(" + c + ", 1): m is the other one", x.side(c, 1), -first[c]);
            check.due("side(" + c + ", 2): in one place", x.side(c, 2), 0);
            check.due("side(" + c + ", 5): a shot", x.side(c, 5), NO_SIDE);
            check.due("side(" + c + ", 6): a long one", x.side(c, 6), NO_SIDE);
        }
        check.due("side(2, 3)", x.side(2, 3), -1);
        check.due("side(4, 3)", x.side(4, 3), 1);
        check.due("side(0, 4): the least other one speaks", x.side(0, 4), -1);
        check.due("side(1, 4): it stands on the line", x.side(1, 4), 0);
        check.due("side(2, 4)", x.side(2, 4), 1);
    }

    private static void sideAtFirstTick() {
        ShotBoard x = new ShotBoard();
        x.person(1010);
        x.person(2010);
        x.step(1, 3, 10);
        x.camera(1505, 0);
        x.board(1002, 7, 209, 0);
        check.due("side at tick 2", x.side(0, 0), -1);
        x.board(1002, 7, 309, 0);
        check.due("side at tick 3", x.side(0, 1), 1);
    }

    private static void length() {
        ShotBoard x = new ShotBoard();
        x.person(1010);
        x.board(0, 7, 0, 0);
        x.board(0, 7, 0, 3);
        x.board(0, 7, 0, 4);
        x.board(0, 7, 59, 180);
        x.board(0, 7, 59, 181);
        x.board(0, 7, 1014, 200);
        int[] atThree = {1, 1, 2, 60, 61, 67};
        for (int b = 0; b < 6; b++) {
            check.due("length(" + b + ") at rate 3", x.length(b), atThree[b]);
        }
        x.rate(1);
        int[] atOne = {1, 3, 4, 180, 181, 200};
        for (int b = 0; b < 6; b++) {
            check.due("length(" + b + ") at rate 1", x.length(b), atOne[b]);
        }
        x.rate(20);
        int[] atTwenty = {1, 1, 1, 60, 60, 10};
        for (int b = 0; b < 6; b++) {
            check.due("length(" + b + ") at rate 20", x.length(b), atTwenty[b]);
        }
    }
}
