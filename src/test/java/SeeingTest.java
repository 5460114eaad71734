/** Promises 10 to 14: where, hidden, sees, size, views. */
public final class SeeingTest {
    private static final int NONE = -1;
    private static final Check check = new Check("SeeingTest");

    private SeeingTest() {
    }

    public static void main(String[] args) {
        where();
        hiddenByWalls();
        hiddenByPersons();
        hiddenAmongSix();
        hiddenByTicks();
        hiddenWrong();
        sees();
        seesHidden();
        seesWrong();
        size();
        views();
        check.end();
    }

    private static void where() {
        ShotBoard x = new ShotBoard();
        x.person(3100);
        x.step(0, 30, 31);
        check.due("where(0, 0)", x.where(0, 0), 3100);
        check.due("where(0, 29)", x.where(0, 29), 3100);
        check.due("where(0, 30)", x.where(0, 30), 31);
        check.due("where(0, 59)", x.where(0, 59), 31);
        check.due("where(0, 60)", x.where(0, 60), NONE);
        check.due("where(0, -1)", x.where(0, -1), NONE);
        check.due("where(1, 0)", x.where(1, 0), NONE);
        check.due("where(-1, 0)", x.where(-1, 0), NONE);
        check.due("where(MIN, MAX)", x.where(Integer.MIN_VALUE, Integer.MAX_VALUE), NONE);
    }

    /** Whether one wall hides a person at (10, 10) from a place. */
    private static void wallHides(int from, int to, int place, int want) {
        ShotBoard x = new ShotBoard();
        x.person(1010);
        x.wall(from, to);
        check.due("wall " + from + " to " + to + ", seen from " + place, x.hidden(0, 0, place), want);
        ShotBoard back = new ShotBoard();
        back.person(1010);
        back.wall(to, from);
        check.due("wall " + to + " to " + from + ", seen from " + place, back.hidden(0, 0, place), want);
    }

    private static void hiddenByWalls() {
        wallHides(505, 515, 10, 1);
        wallHides(505, 510, 10, 1);
        wallHides(505, 509, 10, 0);
        wallHides(511, 515, 10, 0);
        wallHides(310, 610, 10, 1);
        wallHides(10, 3110, 110, 1);
        wallHides(1110, 1510, 10, 0);
        wallHides(1010, 1510, 10, 1);
        wallHides(1010, 1020, 10, 1);
        wallHides(5, 15, 10, 1);
        wallHides(5, 10, 10, 1);
        wallHides(9, 909, 10, 0);
        wallHides(9, 910, 10, 1);
        wallHides(11, 1011, 10, 0);
        wallHides(203, 302, 0, 1);
        wallHides(200, 2, 0, 1);
        wallHides(100, 1110, 0, 0);
        wallHides(1011, 1110, 0, 0);
        wallHides(710, 813, 312, 1);
        wallHides(711, 813, 312, 0);
        wallHides(712, 813, 312, 0);
        wallHides(1110, 1210, 1010, 1);
        wallHides(3100, 31, 1110, 0);
        wallHides(3100, 31, 3131, 1);
    }

    private static void hiddenByPersons() {
        ShotBoard x = new ShotBoard();
        x.person(1010);
        x.person(1414);
        check.due("the one behind", x.hidden(1, 0, 808), 1);
        check.due("the one ahead", x.hidden(0, 0, 808), 0);
        check.due("from where the other stands", x.hidden(0, 0, 1414), 0);
        check.due("from where it stands itself", x.hidden(0, 0, 1010), 1);
        check.due("from between them", x.hidden(1, 0, 1212), 0);
        check.due("off the line by one", x.hidden(1, 0, 809), 0);
        x.person(1414);
        check.due("another one in the same place", x.hidden(1, 0, 1400), 0);
        check.due("another one in the same place, other way about", x.hidden(2, 0, 1400), 0);
        check.due("both behind", x.hidden(2, 0, 0), 1);
        // (12, 3) lies on the line from (10, 0) to (16, 9).
        x.person(1203);
        x.person(1609);
        check.due("hidden on a slant", x.hidden(4, 0, 1000), 1);
        check.due("hidden on a slant from next to it", x.hidden(4, 0, 1001), 0);
    }

    private static void hiddenAmongSix() {
        ShotBoard x = new ShotBoard();
        for (int p = 0; p < 6; p++) {
            x.person(500 + 100 * p);
        }
        check.due("the first of six in a row", x.hidden(0, 0, 0), 0);
        check.due("the last of six in a row", x.hidden(5, 0, 0), 1);
        check.due("the last of six from the other end", x.hidden(5, 0, 3100), 0);
        check.due("the fifth behind the sixth", x.hidden(4, 0, 3100), 1);
    }

    private static void hiddenByTicks() {
        ShotBoard x = new ShotBoard();
        x.person(1010);
        x.person(1310);
        check.due("at tick 0", x.hidden(1, 0, 510), 1);
        x.step(0, 20, 1011);
        check.due("at tick 19", x.hidden(1, 19, 510), 1);
        check.due("at tick 20", x.hidden(1, 20, 510), 0);
        x.step(1, 40, 510);
        check.due("at tick 40, it stands there", x.hidden(1, 40, 510), 1);
        check.due("at tick 59, it stands there", x.hidden(1, 59, 510), 1);
        check.due("at tick 39", x.hidden(1, 39, 510), 0);
    }

    private static void hiddenWrong() {
        ShotBoard x = new ShotBoard();
        x.person(1010);
        check.due("hidden(1, 0, 0)", x.hidden(1, 0, 0), NONE);
        check.due("hidden(-1, 0, 0)", x.hidden(-1, 0, 0), NONE);
        check.due("hidden(0, 60, 0)", x.hidden(0, 60, 0), NONE);
        check.due("hidden(0, -1, 0)", x.hidden(0, -1, 0), NONE);
        check.due("hidden(0, 0, 32)", x.hidden(0, 0, 32), NONE);
        check.due("hidden(0, 0, 3200)", x.hidden(0, 0, 3200), NONE);
        check.due("hidden(0, 0, -1)", x.hidden(0, 0, -1), NONE);
        check.due("hidden(0, 59, 3131)", x.hidden(0, 59, 3131), 0);
    }

    /** Whether a camera at (10, 10) that looks at m sees p, each being told by its place. */
    private static void seesAt(int m, int p, int want) {
        ShotBoard x = new ShotBoard();
        x.camera(1010, 0);
        x.person(m);
        x.person(p);
        check.due("looks at " + m + ", sees " + p, x.sees(0, 0, 1, 0), want);
    }

    private static void sees() {
        seesAt(1510, 1515, 1);
        seesAt(1510, 1505, 1);
        seesAt(1510, 1516, 0);
        seesAt(1510, 1504, 0);
        seesAt(1510, 1614, 1);
        seesAt(1510, 510, 0);
        seesAt(1510, 1015, 0);
        seesAt(1510, 515, 0);
        seesAt(1515, 1015, 1);
        seesAt(1515, 1510, 1);
        seesAt(1515, 915, 0);
        seesAt(1515, 1509, 0);
        seesAt(1213, 1511, 1);
        seesAt(1312, 1115, 1);
        seesAt(1312, 1116, 0);
        seesAt(1010, 1515, 0);
        seesAt(1515, 1010, 0);
        seesAt(1010, 1010, 0);
        seesAt(1510, 1510, 1);
        seesAt(1510, 2010, 0);
        seesAt(2010, 1510, 1);
        seesAt(31, 0, 0);
        seesAt(3131, 31, 0);
    }

    private static void seesHidden() {
        ShotBoard x = new ShotBoard();
        x.camera(1010, 0);
        x.person(1510);
        x.person(1512);
        x.wall(1309, 1310);
        check.due("m is hidden", x.sees(0, 0, 0, 0), 0);
        check.due("p is seen though m is hidden", x.sees(0, 0, 1, 0), 1);
        check.due("p is hidden, m is not", x.sees(0, 1, 0, 0), 0);
        x.step(0, 10, 510);
        check.due("m moves behind the camera", x.sees(0, 0, 1, 10), 0);
        check.due("m moves behind the camera, it sees m", x.sees(0, 0, 0, 10), 1);
        check.due("the tick before", x.sees(0, 0, 1, 9), 1);
    }

    private static void seesWrong() {
        ShotBoard x = new ShotBoard();
        x.camera(1010, 0);
        x.person(1510);
        check.due("sees(1, 0, 0, 0)", x.sees(1, 0, 0, 0), NONE);
        check.due("sees(-1, 0, 0, 0)", x.sees(-1, 0, 0, 0), NONE);
        check.due("sees(0, 1, 0, 0)", x.sees(0, 1, 0, 0), NONE);
        check.due("sees(0, -1, 0, 0)", x.sees(0, -1, 0, 0), NONE);
        check.due("sees(0, 0, 1, 0)", x.sees(0, 0, 1, 0), NONE);
        check.due("sees(0, 0, -1, 0)", x.sees(0, 0, -1, 0), NONE);
        check.due("sees(0, 0, 0, 60)", x.sees(0, 0, 0, 60), NONE);
        check.due("sees(0, 0, 0, -1)", x.sees(0, 0, 0, -1), NONE);
        check.due("sees(0, 0, 0, 59)", x.sees(0, 0, 0, 59), 1);
    }

    private static void size() {
        ShotBoard x = new ShotBoard();
        x.camera(1010, 0);
        x.person(1010);
        int[] places = {1010, 1410, 1411, 1014, 2010, 1618, 2011, 1020, 0, 3131};
        int[] want = {0, 0, 1, 0, 1, 1, 2, 1, 2, 2};
        for (int i = 0; i < places.length; i++) {
            x.step(0, i + 1, places[i]);
            check.due("size of who stands at " + places[i], x.size(0, 0, i + 1), want[i]);
        }
        x.wall(1110, 1111);
        check.due("size behind a wall", x.size(0, 0, 2), 0);
        check.due("size(1, 0, 0)", x.size(1, 0, 0), NONE);
        check.due("size(-1, 0, 0)", x.size(-1, 0, 0), NONE);
        check.due("size(0, 1, 0)", x.size(0, 1, 0), NONE);
        check.due("size(0, -1, 0)", x.size(0, -1, 0), NONE);
        check.due("size(0, 0, 60)", x.size(0, 0, 60), NONE);
        check.due("size(0, 0, -1)", x.size(0, 0, -1), NONE);
    }

    private static void views() {
        ShotBoard x = new ShotBoard();
        x.person(0);
        check.due("alone: all but its own place", x.views(0, 0), 1023);
        x.person(1);
        check.due("one next to it hides 30 places", x.views(0, 0), 993);
        check.due("the corner hides nothing of its neighbour", x.views(1, 0), 1023);
        x.step(1, 7, 0);
        check.due("both in one place", x.views(0, 7), 1023);
        x.wall(3100, 3131);
        check.due("a wall along the far edge", x.views(0, 7), 1023 - 32);
        x.wall(0, 1);
        check.due("a wall at the person", x.views(0, 7), 0);
        x.open();
        check.due("without that wall", x.views(0, 7), 1023 - 32);
        check.due("views(2, 0)", x.views(2, 0), NONE);
        check.due("views(-1, 0)", x.views(-1, 0), NONE);
        check.due("views(0, 60)", x.views(0, 60), NONE);
        check.due("views(0, -1)", x.views(0, -1), NONE);
        x.step(0, 59, 1531);
        check.due("views(0, 59)", x.views(0, 59), 1023 - 32);
    }
}
