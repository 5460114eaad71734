import java.util.ArrayList;
import java.util.List;
import java.util.TreeMap;

/**
 * The document written down a second time, slowly and by other ways than the class: lines are met by
 * fractions, places between two are walked, all rows of cameras and all orders are tried, nothing is kept.
 */
final class Model {
    private static final int NONE = -1, FULL = -2, STATE = -3, NO_PLAN = -5;

    private record Wall(int from, int to) {
    }

    private record Camera(int place, int light) {
    }

    private record Board(int kind, int main, int mask, int sizes, int first, int last, int words) {
    }

    private final List<TreeMap<Integer, Integer>> persons = new ArrayList<>();
    private final List<Wall> walls = new ArrayList<>();
    private final List<Camera> cameras = new ArrayList<>();
    private final List<Board> boards = new ArrayList<>();
    private final List<Integer> told = new ArrayList<>();
    private int rate = 3;
    private int[] best;

    int answer(String call, int a, int b, int c, int d) {
        return switch (call) {
            case "person" -> person(a);
            case "step" -> step(a, b, c);
            case "wall" -> wall(a, b);
            case "open" -> walls.isEmpty() ? STATE : removeLast(walls);
            case "camera" -> camera(a, b);
            case "board" -> board(a, b, c, d);
            case "drop" -> boards.isEmpty() ? STATE : removeLast(boards);
            case "rate" -> rate(a);
            case "where" -> noPerson(a) || noTick(b) ? NONE : at(a, b);
            case "hidden" -> noPerson(a) || noTick(b) || noPlace(c) ? NONE : bit(hidden(a, b, c));
            case "sees" -> noCamera(a) || noPerson(b) || noPerson(c) || noTick(d) ? NONE
                : bit(!hidden(c, d, cameras.get(a).place) && cone(a, b, c, d));
            case "size" -> noCamera(a) || noPerson(b) || noTick(c) ? NONE : size(a, b, c);
            case "views" -> noPerson(a) || noTick(b) ? NONE : views(a, b);
            case "gives" -> noCamera(a) || noBoard(b) ? NONE : bit(why(a, b) == 0);
            case "why" -> noCamera(a) || noBoard(b) ? NONE : why(a, b);
            case "side" -> noCamera(a) || noBoard(b) || boards.get(b).kind != 1 ? -9 : side(a, b);
            case "length" -> noBoard(a) ? NONE : length(a);
            case "run" -> run();
            case "frame" -> frame(a);
            case "count" -> count(a);
            case "list" -> list(a);
            case "crossings" -> crossings();
            default -> planned(call, a);
        };
    }

    private int planned(String call, int a) {
        if (call.equals("plan") && noBoard(a)) {
            return NONE;
        }
        best = null;
        tryRows(new int[boards.size()], 0);
        if (best == null) {
            return call.equals("order") ? NONE : NO_PLAN;
        }
        return switch (call) {
            case "fewest" -> Integer.bitCount(maskOf(best));
            case "plan" -> best[a];
            case "swings" -> changes(best, best.length);
            case "order" -> order(a);
            default -> throw new IllegalArgumentException(call);
        };
    }

    private static int bit(boolean is) {
        return is ? 1 : 0;
    }

    private static int removeLast(List<?> list) {
        list.remove(list.size() - 1);
        return list.size();
    }

    private static boolean noPlace(int place) {
        for (int x = 0; x <= 31; x++) {
            for (int y = 0; y <= 31; y++) {
                if (100 * x + y == place) {
                    return false;
                }
            }
        }
        return true;
    }

    private static boolean noTick(int tick) {
        return tick < 0 || tick > 59;
    }

    private boolean noPerson(int person) {
        return person < 0 || person >= persons.size();
    }

    private boolean noCamera(int camera) {
        return camera < 0 || camera >= cameras.size();
    }

    private boolean noBoard(int board) {
        return board < 0 || board >= boards.size();
    }

    private int person(int place) {
        if (noPlace(place)) {
            return NONE;
        }
        if (persons.size() == 6) {
            return FULL;
        }
        TreeMap<Integer, Integer> steps = new TreeMap<>();
        steps.put(0, place);
        persons.add(steps);
        return persons.size() - 1;
    }

    private int step(int person, int tick, int place) {
        if (noPerson(person) || noTick(tick) || tick == 0 || noPlace(place)) {
            return NONE;
        }
        TreeMap<Integer, Integer> steps = persons.get(person);
        if (!steps.containsKey(tick) && steps.size() == 13) {
            return FULL;
        }
        steps.put(tick, place);
        return steps.size() - 1;
    }

    private int wall(int from, int to) {
        if (noPlace(from) || noPlace(to) || from == to) {
            return NONE;
        }
        if (walls.size() == 12) {
            return FULL;
        }
        walls.add(new Wall(from, to));
        return walls.size() - 1;
    }

    private int camera(int place, int light) {
        if (noPlace(place) || light < 0 || light > 3) {
            return NONE;
        }
        if (cameras.size() == 10) {
            return FULL;
        }
        cameras.add(new Camera(place, light));
        return cameras.size() - 1;
    }

    private int board(int who, int sizes, int span, int words) {
        Board found = null;
        for (int kind = 0; kind <= 2; kind++) {
            for (int m = 0; m < persons.size(); m++) {
                int mask = who - 1000 * kind - 100 * m;
                boolean fits = who >= 0 && mask >= 0 && mask < 1 << persons.size();
                boolean lone = kind == 1 && (mask | 1 << m) == 1 << m;
                if (fits && !lone) {
                    found = new Board(kind, m, mask | 1 << m, sizes, span / 100, span % 100, words);
                }
            }
        }
        if (found == null || sizes < 1 || sizes > 7 || words < 0 || words > 200) {
            return NONE;
        }
        if (span < 0 || noTick(found.first) || noTick(found.last) || found.first > found.last) {
            return NONE;
        }
        if (boards.size() == 8) {
            return FULL;
        }
        boards.add(found);
        return boards.size() - 1;
    }

    private int rate(int r) {
        if (r < 1 || r > 20) {
            return NONE;
        }
        int was = rate;
        rate = r;
        return was;
    }

    private int at(int person, int tick) {
        return persons.get(person).floorEntry(tick).getValue();
    }

    private static int gcd(int a, int b) {
        return b == 0 ? Math.abs(a) : gcd(b, a % b);
    }

    private boolean hidden(int person, int tick, int from) {
        int to = at(person, tick);
        int px = from / 100;
        int py = from % 100;
        int dx = to / 100 - px;
        int dy = to % 100 - py;
        int parts = gcd(dx, dy);
        if (parts == 0) {
            return true;
        }
        for (int k = 1; k < parts; k++) {
            int place = 100 * (px + dx / parts * k) + py + dy / parts * k;
            for (int p = 0; p < persons.size(); p++) {
                if (at(p, tick) == place) {
                    return true;
                }
            }
        }
        for (Wall wall : walls) {
            if (meets(px, py, dx, dy, wall)) {
                return true;
            }
        }
        return false;
    }

    private static boolean meets(int px, int py, int dx, int dy, Wall wall) {
        int ax = wall.from / 100;
        int ay = wall.from % 100;
        int ex = wall.to / 100 - ax;
        int ey = wall.to % 100 - ay;
        int det = dx * ey - dy * ex;
        if (det != 0) {
            double t = (double) ((ax - px) * ey - (ay - py) * ex) / det;
            double u = (double) ((ax - px) * dy - (ay - py) * dx) / det;
            return t >= 0 && t <= 1 && u >= 0 && u <= 1;
        }
        if ((ax - px) * dy != (ay - py) * dx) {
            return false;
        }
        return overlap(px, px + dx, ax, ax + ex) && overlap(py, py + dy, ay, ay + ey);
    }

    private static boolean overlap(int a, int b, int c, int d) {
        return Math.max(Math.min(a, b), Math.min(c, d)) <= Math.min(Math.max(a, b), Math.max(c, d));
    }

    private boolean cone(int camera, int m, int p, int tick) {
        int from = cameras.get(camera).place;
        int[] a = way(from, at(m, tick));
        int[] b = way(from, at(p, tick));
        long both = a[0] * b[0] + a[1] * b[1];
        return both > 0 && 2 * both * both >= (long) square(a) * square(b);
    }

    private static int[] way(int from, int to) {
        return new int[] {to / 100 - from / 100, to % 100 - from % 100};
    }

    private static int square(int[] a) {
        return a[0] * a[0] + a[1] * a[1];
    }

    private static int turn(int[] u, int[] v) {
        return Integer.signum(u[0] * v[1] - u[1] * v[0]);
    }

    private int size(int camera, int person, int tick) {
        int far = square(way(cameras.get(camera).place, at(person, tick)));
        return far > 100 ? 2 : far > 16 ? 1 : 0;
    }

    private int views(int person, int tick) {
        int many = 0;
        for (int place = 0; place <= 3131; place++) {
            many += noPlace(place) || hidden(person, tick, place) ? 0 : 1;
        }
        return many;
    }

    private int why(int camera, int number) {
        Board board = boards.get(number);
        for (int tick = board.first; tick <= board.last; tick++) {
            int least = Integer.MAX_VALUE;
            for (int p = 0; p < persons.size(); p++) {
                if ((board.mask & 1 << p) == 0) {
                    continue;
                }
                if (hidden(p, tick, cameras.get(camera).place)) {
                    least = Math.min(least, 10 + p);
                }
                if (!cone(camera, board.main, p, tick)) {
                    least = Math.min(least, 20 + p);
                }
                boolean turned = tick > board.first
                    && lookSide(camera, board.main, p, tick - 1) * lookSide(camera, board.main, p, tick) == -1;
                if (board.kind == 2 && turned) {
                    least = Math.min(least, 40);
                }
            }
            if ((board.sizes & 1 << size(camera, board.main, tick)) == 0) {
                least = Math.min(least, 30);
            }
            if (least != Integer.MAX_VALUE) {
                return 100 * tick + least;
            }
        }
        return 0;
    }

    private int lookSide(int camera, int m, int p, int tick) {
        int from = cameras.get(camera).place;
        return turn(way(from, at(m, tick)), way(from, at(p, tick)));
    }

    private int other(Board board) {
        int p = 0;
        while (p == board.main || (board.mask & 1 << p) == 0) {
            p++;
        }
        return p;
    }

    private int side(int camera, int number) {
        Board board = boards.get(number);
        return sideOf(camera, board, board.main, other(board));
    }

    private int sideOf(int camera, Board board, int first, int second) {
        int m = at(first, board.first);
        return turn(way(m, at(second, board.first)), way(m, cameras.get(camera).place));
    }

    private int length(int number) {
        Board board = boards.get(number);
        int spoken = board.words / rate + (board.words % rate == 0 ? 0 : 1);
        return Math.max(spoken, board.last - board.first + 1);
    }

    private int run() {
        int all = 0;
        for (int b = 0; b < boards.size(); b++) {
            all += length(b);
        }
        return all;
    }

    private int frame(int f) {
        List<Integer> frames = new ArrayList<>();
        for (int b = 0; b < boards.size(); b++) {
            for (int i = 0; i < length(b); i++) {
                frames.add(b);
            }
        }
        return f < 0 || f >= frames.size() ? NONE : frames.get(f);
    }

    private int count(int what) {
        int[] many = {persons.size(), walls.size(), cameras.size(), boards.size(), told.size()};
        return what < 0 || what >= many.length ? NONE : many[what];
    }

    private int list(int camera) {
        if (noCamera(camera)) {
            return NONE;
        }
        if (told.size() == 8) {
            return FULL;
        }
        told.add(camera);
        return told.size();
    }

    private int crossings() {
        int[] row = new int[told.size()];
        for (int i = 0; i < row.length; i++) {
            row[i] = told.get(i);
        }
        told.clear();
        if (row.length != boards.size()) {
            return STATE;
        }
        for (int b = 0; b < row.length; b++) {
            if (why(row[b], b) != 0) {
                return STATE;
            }
        }
        return crossed(row);
    }

    private int crossed(int[] row) {
        int many = 0;
        for (int b = 0; b < row.length; b++) {
            if (boards.get(b).kind != 1) {
                continue;
            }
            int next = b + 1;
            while (next < row.length && boards.get(next).kind != 1) {
                next++;
            }
            many += next < row.length && crosses(row[b], b, row[next], next) ? 1 : 0;
        }
        return many;
    }

    private boolean crosses(int camera, int number, int nextCamera, int nextNumber) {
        Board board = boards.get(number);
        Board next = boards.get(nextNumber);
        int low = Math.min(board.main, other(board));
        int high = Math.max(board.main, other(board));
        if (low != Math.min(next.main, other(next)) || high != Math.max(next.main, other(next))) {
            return false;
        }
        int one = sideOf(camera, board, low, high);
        int two = sideOf(nextCamera, next, low, high);
        return one == 1 && two == -1 || one == -1 && two == 1;
    }

    private void tryRows(int[] row, int b) {
        if (b == row.length) {
            if (crossed(row) == 0 && isBetter(row)) {
                best = row.clone();
            }
            return;
        }
        for (int c = 0; c < cameras.size(); c++) {
            if (why(c, b) == 0) {
                row[b] = c;
                tryRows(row, b + 1);
            }
        }
    }

    /** Rows come in their order, so an equal one that comes later is not better. */
    private boolean isBetter(int[] row) {
        if (best == null) {
            return true;
        }
        int mask = maskOf(row);
        int bestMask = maskOf(best);
        int more = Integer.bitCount(mask) - Integer.bitCount(bestMask);
        return more < 0 || more == 0 && mask < bestMask;
    }

    private static int maskOf(int[] row) {
        int mask = 0;
        for (int c : row) {
            mask |= 1 << c;
        }
        return mask;
    }

    private int changes(int[] row, int many) {
        int changes = 0;
        for (int i = 1; i < many; i++) {
            changes += cameras.get(row[i]).light != cameras.get(row[i - 1]).light ? 1 : 0;
        }
        return changes;
    }

    private int[] bestOrder;

    private int order(int i) {
        int mask = maskOf(best);
        bestOrder = null;
        tryOrders(new int[Integer.bitCount(mask)], 0, mask);
        return i < 0 || i >= bestOrder.length ? NONE : bestOrder[i];
    }

    private void tryOrders(int[] order, int many, int left) {
        if (left == 0) {
            if (bestOrder == null || changes(order, many) < changes(bestOrder, many)) {
                bestOrder = order.clone();
            }
            return;
        }
        for (int c = 0; c < cameras.size(); c++) {
            if ((left & 1 << c) != 0) {
                order[many] = c;
                tryOrders(order, many + 1, left & ~(1 << c));
            }
        }
    }
}
