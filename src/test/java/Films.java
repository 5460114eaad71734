import java.util.ArrayList;
import java.util.List;

/** Whole films, as lists of the calls that make them, so that a test knows how many calls an object has had. */
final class Films {
    private Films() {
    }

    static List<Ask.Call> empty() {
        return new ArrayList<>();
    }

    /** Some of everything, with room for more; a plan of two cameras, and a list that crosses once. */
    static List<Ask.Call> some() {
        List<Ask.Call> calls = new ArrayList<>();
        calls.add(x -> x.person(1010));
        calls.add(x -> x.person(1410));
        calls.add(x -> x.person(1212));
        calls.add(x -> x.step(0, 7, 1011));
        calls.add(x -> x.step(1, 30, 1511));
        calls.add(x -> x.wall(2500, 2531));
        calls.add(x -> x.wall(300, 331));
        calls.add(x -> x.camera(1204, 2));
        calls.add(x -> x.camera(1225, 1));
        calls.add(x -> x.camera(1216, 3));
        calls.add(x -> x.board(1002, 7, 5, 10));
        calls.add(x -> x.board(0, 6, 709, 0));
        calls.add(x -> x.board(1101, 4, 3031, 40));
        calls.add(x -> x.board(2, 2, 2, 3));
        calls.add(x -> x.rate(5));
        int[] row = {0, 1, 1, 0};
        for (int c : row) {
            calls.add(x -> x.list(c));
        }
        return calls;
    }

    /** The same with boards that no camera gives. */
    static List<Ask.Call> withoutPlan() {
        List<Ask.Call> calls = some();
        calls.add(x -> x.board(4, 1, 0, 0));
        calls.add(x -> x.board(1205, 1, 59, 77));
        return calls;
    }

    /** All that there can be: 6 persons, 12 steps, 12 walls, 10 cameras, 8 boards, 8 on THE LIST; a plan of two cameras. */
    static List<Ask.Call> full() {
        List<Ask.Call> calls = fullWithoutList();
        int[] row = {0, 1, 1, 0, 0, 1, 0, 1};
        for (int c : row) {
            calls.add(x -> x.list(c));
        }
        return calls;
    }

    static List<Ask.Call> fullWithoutList() {
        List<Ask.Call> calls = new ArrayList<>();
        int[] persons = {1010, 1410, 1212, 1112, 1313, 1512};
        for (int place : persons) {
            calls.add(x -> x.person(place));
        }
        for (int i = 0; i < 12; i++) {
            int tick = 59 - 2 * i;
            calls.add(x -> x.step(0, tick, 1009 + tick % 4));
        }
        calls.add(x -> x.step(5, 20, 2020));
        for (int w = 0; w < 12; w++) {
            int end = 3100 + w;
            calls.add(x -> x.wall(3031, end));
        }
        int[] cameras = {1204, 1225, 1216, 1200, 510, 2010, 705, 1730, 1530, 1105};
        for (int c = 0; c < 10; c++) {
            int place = cameras[c];
            int light = c * 7 % 4;
            calls.add(x -> x.camera(place, light));
        }
        int[] who = {1002, 0, 2002, 1101, 200, 1003, 2100, 1006};
        int[] sizes = {7, 4, 7, 7, 6, 7, 2, 7};
        int[] spans = {5, 1012, 3, 0, 507, 303, 9, 101};
        for (int b = 0; b < 8; b++) {
            int board = b;
            calls.add(x -> x.board(who[board], sizes[board], spans[board], 25 * board));
        }
        calls.add(x -> x.rate(7));
        return calls;
    }
}
