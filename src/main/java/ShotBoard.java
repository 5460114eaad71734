/**
 * A planner of shots: persons move over a plan by ticks, walls hide them, cameras see them in a cone,
 * boards ask who is seen and how large, and a plan gives each board a camera.
 *
 * A place is told as 100 times x, and y, both inside the class and outside it.
 */
public final class ShotBoard {
    public static final int NONE = -1, FULL = -2, STATE = -3;

    private static final int NO_PLAN = -5, NO_SIDE = -9;

    private static final int GRID = 32, TICKS = 60;
    private static final int MAX_PERSONS = 6, MAX_STEPS = 12, MAX_WALLS = 12, MAX_CAMERAS = 10, MAX_BOARDS = 8;
    private static final int LIGHTS = 4, ALL_SIZES = 7, MAX_WORDS = 200, FIRST_RATE = 3, MAX_RATE = 20;

    private static final int TWO = 1, LONG = 2;

    private final Stage stage = new Stage();
    private final Rig rig = new Rig();
    private final Script script = new Script();
    private final Judge judge = new Judge(stage);
    private final Planner planner = new Planner(judge, rig, script);
    private final int[] told = new int[MAX_BOARDS];
    private int toldCount;

    public ShotBoard() {
    }

    public int person(int place) {
        if (!isPlace(place)) {
            return NONE;
        }
        if (stage.persons >= MAX_PERSONS) {
            return FULL;
        }
        planner.forget();
        return stage.addPerson(place);
    }

    public int step(int person, int tick, int place) {
        if (!isPerson(person) || !isTick(tick) || tick == 0 || !isPlace(place)) {
            return NONE;
        }
        if (!stage.hasStep(person, tick) && stage.stepsOf(person) >= MAX_STEPS) {
            return FULL;
        }
        planner.forget();
        return stage.addStep(person, tick, place);
    }

    public int wall(int from, int to) {
        if (!isPlace(from) || !isPlace(to) || from == to) {
            return NONE;
        }
        if (stage.walls >= MAX_WALLS) {
            return FULL;
        }
        planner.forget();
        return stage.addWall(from, to);
    }

    public int open() {
        if (stage.walls == 0) {
            return STATE;
        }
        planner.forget();
        stage.walls--;
        return stage.walls;
    }

    public int camera(int place, int light) {
        if (!isPlace(place) || light < 0 || light >= LIGHTS) {
            return NONE;
        }
        if (rig.cameras >= MAX_CAMERAS) {
            return FULL;
        }
        planner.forget();
        return rig.add(place, light);
    }

    public int board(int who, int sizes, int span, int words) {
        if (!isWho(who) || !isSpan(span) || sizes < 1 || sizes > ALL_SIZES || words < 0 || words > MAX_WORDS) {
            return NONE;
        }
        if (script.boards >= MAX_BOARDS) {
            return FULL;
        }
        planner.forget();
        return script.add(who, sizes, span, words);
    }

    public int drop() {
        if (script.boards == 0) {
            return STATE;
        }
        planner.forget();
        script.boards--;
        return script.boards;
    }

    public int rate(int r) {
        if (r < 1 || r > MAX_RATE) {
            return NONE;
        }
        int before = script.wordsPerTick;
        script.wordsPerTick = r;
        return before;
    }

    public int where(int person, int tick) {
        if (!isPerson(person) || !isTick(tick)) {
            return NONE;
        }
        return stage.placeOf(person, tick);
    }

    public int hidden(int person, int tick, int place) {
        if (!isPerson(person) || !isTick(tick) || !isPlace(place)) {
            return NONE;
        }
        return stage.hides(person, tick, place) ? 1 : 0;
    }

    public int sees(int camera, int m, int p, int tick) {
        if (!isCamera(camera) || !isPerson(m) || !isPerson(p) || !isTick(tick)) {
            return NONE;
        }
        int from = rig.places[camera];
        boolean inCone = Plane.inCone(from, stage.placeOf(m, tick), stage.placeOf(p, tick));
        return inCone && !stage.hides(p, tick, from) ? 1 : 0;
    }

    public int size(int camera, int person, int tick) {
        if (!isCamera(camera) || !isPerson(person) || !isTick(tick)) {
            return NONE;
        }
        return Plane.sizeSeen(rig.places[camera], stage.placeOf(person, tick));
    }

    public int views(int person, int tick) {
        if (!isPerson(person) || !isTick(tick)) {
            return NONE;
        }
        int open = 0;
        for (int x = 0; x < GRID; x++) {
            for (int y = 0; y < GRID; y++) {
                if (!stage.hides(person, tick, 100 * x + y)) {
                    open++;
                }
            }
        }
        return open;
    }

    public int gives(int camera, int board) {
        if (!isCamera(camera) || !isBoard(board)) {
            return NONE;
        }
        return judge.fault(rig.places[camera], script.rows[board]) == 0 ? 1 : 0;
    }

    public int why(int camera, int board) {
        if (!isCamera(camera) || !isBoard(board)) {
            return NONE;
        }
        return judge.fault(rig.places[camera], script.rows[board]);
    }

    public int side(int camera, int board) {
        if (!isCamera(camera) || !isBoard(board) || script.rows[board].kind != TWO) {
            return NO_SIDE;
        }
        return judge.sideOfMain(rig.places[camera], script.rows[board]);
    }

    public int length(int board) {
        if (!isBoard(board)) {
            return NONE;
        }
        return script.lengthOf(board);
    }

    public int fewest() {
        planner.refresh();
        return planner.used;
    }

    public int plan(int board) {
        if (!isBoard(board)) {
            return NONE;
        }
        planner.refresh();
        return planner.used < 0 ? NO_PLAN : planner.row[board];
    }

    public int swings() {
        planner.refresh();
        return planner.used < 0 ? NO_PLAN : planner.turns();
    }

    public int order(int i) {
        planner.refresh();
        return i < 0 || i >= planner.used ? NONE : planner.sequence[i];
    }

    public int crossings() {
        int many = toldCount;
        toldCount = 0;
        if (many != script.boards) {
            return STATE;
        }
        for (int b = 0; b < many; b++) {
            if (judge.fault(rig.places[told[b]], script.rows[b]) != 0) {
                return STATE;
            }
        }
        return crossingsOfTold(many);
    }

    public int list(int camera) {
        if (!isCamera(camera)) {
            return NONE;
        }
        if (toldCount >= MAX_BOARDS) {
            return FULL;
        }
        told[toldCount] = camera;
        toldCount++;
        return toldCount;
    }

    public int run() {
        int all = 0;
        for (int b = 0; b < script.boards; b++) {
            all += script.lengthOf(b);
        }
        return all;
    }

    public int frame(int f) {
        if (f < 0) {
            return NONE;
        }
        int left = f;
        for (int b = 0; b < script.boards; b++) {
            int frames = script.lengthOf(b);
            if (left < frames) {
                return b;
            }
            left -= frames;
        }
        return NONE;
    }

    public int count(int what) {
        switch (what) {
            case 0:
                return stage.persons;
            case 1:
                return stage.walls;
            case 2:
                return rig.cameras;
            case 3:
                return script.boards;
            case 4:
                return toldCount;
            default:
                return NONE;
        }
    }

    private int crossingsOfTold(int many) {
        int crossed = 0;
        int last = 0;
        for (int b = 0; b < many; b++) {
            Board board = script.rows[b];
            if (board.kind == TWO) {
                int now = judge.sideOfLesser(rig.places[told[b]], board);
                if (board.cutsOnPair && last * now < 0) {
                    crossed++;
                }
                last = now;
            }
        }
        return crossed;
    }

    private static boolean isPlace(int place) {
        return place >= 0 && place / 100 < GRID && place % 100 < GRID;
    }

    private static boolean isTick(int tick) {
        return tick >= 0 && tick < TICKS;
    }

    private static boolean isSpan(int span) {
        return span >= 0 && isTick(span % 100) && span / 100 <= span % 100;
    }

    private boolean isPerson(int person) {
        return person >= 0 && person < stage.persons;
    }

    private boolean isCamera(int camera) {
        return camera >= 0 && camera < rig.cameras;
    }

    private boolean isBoard(int board) {
        return board >= 0 && board < script.boards;
    }

    private boolean isWho(int who) {
        if (who < 0 || who / 1000 > LONG) {
            return false;
        }
        int main = who / 100 % 10;
        int mask = who % 100;
        if (!isPerson(main) || mask >= 1 << stage.persons) {
            return false;
        }
        return who / 1000 != TWO || (mask & ~(1 << main)) != 0;
    }

    /** What can be told of places alone. Products stay small: no way is longer than 31 in x or in y. */
    private static final class Plane {
        private Plane() {
        }

        /** The cross product of the ways from a place to a and to b. */
        static int cross(int from, int a, int b) {
            int x = from / 100;
            int y = from % 100;
            return (a / 100 - x) * (b % 100 - y) - (a % 100 - y) * (b / 100 - x);
        }

        /** The inner product of the ways from a place to a and to b. */
        static int dot(int from, int a, int b) {
            int x = from / 100;
            int y = from % 100;
            return (a / 100 - x) * (b / 100 - x) + (a % 100 - y) * (b % 100 - y);
        }

        /** Whether a place lies between two others on their line, and is neither of them. */
        static boolean isBetween(int place, int a, int b) {
            return cross(place, a, b) == 0 && dot(place, a, b) < 0;
        }

        /** Whether the straight lines p to q and a to b have a place in common, their ends being part of them. */
        static boolean meet(int p, int q, int a, int b) {
            int aOff = cross(p, q, a);
            int bOff = cross(p, q, b);
            if (aOff * bOff > 0 || cross(a, b, p) * cross(a, b, q) > 0) {
                return false;
            }
            if (aOff != 0 || bOff != 0) {
                return true;
            }
            // All four lie on one line: they meet if an end of one lies within the other.
            return dot(a, p, q) <= 0 || dot(b, p, q) <= 0 || dot(p, a, b) <= 0;
        }

        /** Whether p's direction from a place is at most 45 degrees off from m's. */
        static boolean inCone(int from, int m, int p) {
            int both = dot(from, m, p);
            return both > 0 && 2 * both * both >= dot(from, m, m) * dot(from, p, p);
        }

        static int sizeSeen(int from, int at) {
            int square = dot(from, at, at);
            return square <= 16 ? 0 : square <= 100 ? 1 : 2;
        }
    }

    /** The persons with their places by ticks, and the walls. */
    private static final class Stage {
        private final int[] placeAt = new int[MAX_PERSONS * TICKS];
        /** For each person: bit t is set if it has a step at tick t. */
        private final long[] stepTicks = new long[MAX_PERSONS];
        private final int[] wallFrom = new int[MAX_WALLS];
        private final int[] wallTo = new int[MAX_WALLS];
        int persons;
        int walls;

        int placeOf(int person, int tick) {
            return placeAt[person * TICKS + tick];
        }

        boolean hasStep(int person, int tick) {
            return (stepTicks[person] >> tick & 1L) != 0;
        }

        boolean someoneStepsAt(int tick) {
            for (int p = 0; p < persons; p++) {
                if (hasStep(p, tick)) {
                    return true;
                }
            }
            return false;
        }

        int stepsOf(int person) {
            return Long.bitCount(stepTicks[person]);
        }

        int addPerson(int place) {
            for (int t = 0; t < TICKS; t++) {
                placeAt[persons * TICKS + t] = place;
            }
            persons++;
            return persons - 1;
        }

        int addStep(int person, int tick, int place) {
            stepTicks[person] |= 1L << tick;
            placeAt[person * TICKS + tick] = place;
            for (int t = tick + 1; t < TICKS && !hasStep(person, t); t++) {
                placeAt[person * TICKS + t] = place;
            }
            return stepsOf(person);
        }

        int addWall(int from, int to) {
            wallFrom[walls] = from;
            wallTo[walls] = to;
            walls++;
            return walls - 1;
        }

        /** Whether a person is hidden at a tick from a place. */
        boolean hides(int person, int tick, int from) {
            int to = placeOf(person, tick);
            if (from == to) {
                return true;
            }
            for (int w = 0; w < walls; w++) {
                if (Plane.meet(from, to, wallFrom[w], wallTo[w])) {
                    return true;
                }
            }
            for (int p = 0; p < persons; p++) {
                if (Plane.isBetween(placeOf(p, tick), from, to)) {
                    return true;
                }
            }
            return false;
        }
    }

    /** The cameras. */
    private static final class Rig {
        final int[] places = new int[MAX_CAMERAS];
        final int[] lights = new int[MAX_CAMERAS];
        int cameras;

        int add(int place, int light) {
            places[cameras] = place;
            lights[cameras] = light;
            cameras++;
            return cameras - 1;
        }
    }

    private static final class Board {
        int kind;
        int main;
        /** Bit p is set if person p must be seen; the main person's always is. */
        int mask;
        int sizes;
        int first;
        int last;
        int words;
        /** Whether this is a two, and the two before it has the same speakers. */
        boolean cutsOnPair;

        boolean mustShow(int person) {
            return (mask >> person & 1) != 0;
        }

        /** The least other person that must be seen; the main one if there is no other. */
        int partner() {
            for (int p = 0; p < MAX_PERSONS; p++) {
                if (p != main && mustShow(p)) {
                    return p;
                }
            }
            return main;
        }

        int speakers() {
            return 1 << main | 1 << partner();
        }
    }

    /** The boards in order, and how fast words are spoken. */
    private static final class Script {
        final Board[] rows = new Board[MAX_BOARDS];
        int boards;
        int wordsPerTick = FIRST_RATE;

        Script() {
            for (int b = 0; b < MAX_BOARDS; b++) {
                rows[b] = new Board();
            }
        }

        int add(int who, int sizes, int span, int words) {
            Board board = rows[boards];
            board.kind = who / 1000;
            board.main = who / 100 % 10;
            board.mask = who % 100 | 1 << board.main;
            board.sizes = sizes;
            board.first = span / 100;
            board.last = span % 100;
            board.words = words;
            // Boards come and go at the end alone, so the two before this one stays what it is now.
            board.cutsOnPair = board.kind == TWO && speakersOfLastTwo() == board.speakers();
            boards++;
            return boards - 1;
        }

        /** The speakers of the last two there is, as bits; 0 if there is none. */
        private int speakersOfLastTwo() {
            for (int b = boards - 1; b >= 0; b--) {
                if (rows[b].kind == TWO) {
                    return rows[b].speakers();
                }
            }
            return 0;
        }

        int lengthOf(int b) {
            Board board = rows[b];
            int spoken = (board.words + wordsPerTick - 1) / wordsPerTick;
            return Math.max(board.last - board.first + 1, spoken);
        }
    }

    /** What a camera at a place makes of a board. */
    private static final class Judge {
        private final Stage stage;

        Judge(Stage stage) {
            this.stage = stage;
        }

        /** 100 times the least tick at which the camera fails, and what fails there; 0 if nothing does. */
        int fault(int from, Board board) {
            for (int tick = board.first; tick <= board.last; tick++) {
                // Where nobody steps, nothing can fail that did not fail at the tick before.
                boolean isNew = tick == board.first || stage.someoneStepsAt(tick);
                int what = isNew ? faultAt(from, board, tick) : 0;
                if (what != 0) {
                    return 100 * tick + what;
                }
            }
            return 0;
        }

        private int faultAt(int from, Board board, int tick) {
            for (int p = 0; p < stage.persons; p++) {
                if (board.mustShow(p) && stage.hides(p, tick, from)) {
                    return 10 + p;
                }
            }
            int main = stage.placeOf(board.main, tick);
            for (int p = 0; p < stage.persons; p++) {
                if (board.mustShow(p) && !Plane.inCone(from, main, stage.placeOf(p, tick))) {
                    return 20 + p;
                }
            }
            if ((board.sizes >> Plane.sizeSeen(from, main) & 1) == 0) {
                return 30;
            }
            boolean mayTurn = board.kind == LONG && tick > board.first;
            return mayTurn && someoneChangesSide(from, board, tick) ? 40 : 0;
        }

        /** Whether someone that must be seen stands on one side at the tick before, and on the other one now. */
        private boolean someoneChangesSide(int from, Board board, int tick) {
            int before = stage.placeOf(board.main, tick - 1);
            int now = stage.placeOf(board.main, tick);
            for (int p = 0; p < stage.persons; p++) {
                if (board.mustShow(p)) {
                    int sideBefore = Plane.cross(from, before, stage.placeOf(p, tick - 1));
                    int sideNow = Plane.cross(from, now, stage.placeOf(p, tick));
                    if (sideBefore * sideNow < 0) {
                        return true;
                    }
                }
            }
            return false;
        }

        /** The side of a two's line, told of its main person. */
        int sideOfMain(int from, Board board) {
            int main = stage.placeOf(board.main, board.first);
            int partner = stage.placeOf(board.partner(), board.first);
            return Integer.signum(Plane.cross(main, partner, from));
        }

        /** The side of a two's line, told of the speaker with the lesser number, so that two boards compare. */
        int sideOfLesser(int from, Board board) {
            int side = sideOfMain(from, board);
            return board.main < board.partner() ? side : -side;
        }
    }

    /** The plan with the fewest cameras. It is kept until something that it hangs on changes. */
    private static final class Planner {
        private final Judge judge;
        private final Rig rig;
        private final Script script;
        /** For each board: bit c is set if camera c gives it. */
        private final int[] givers = new int[MAX_BOARDS];
        /** For each board and camera: the side told of the lesser speaker; 0 where the board is no two. */
        private final int[] sides = new int[MAX_BOARDS * MAX_CAMERAS];
        /** For each board and each side (-1, 0, 1) of the last two before it: whether the rest can be filmed. */
        private final boolean[] canGoOn = new boolean[(MAX_BOARDS + 1) * 3];
        /** The plan's camera for each board. */
        final int[] row = new int[MAX_BOARDS];
        /** The plan's cameras in their order by light. */
        final int[] sequence = new int[MAX_CAMERAS];
        /** How many cameras the plan has, or NO_PLAN. */
        int used;
        private int chosen;
        private boolean known;

        Planner(Judge judge, Rig rig, Script script) {
            this.judge = judge;
            this.rig = rig;
            this.script = script;
        }

        void forget() {
            known = false;
        }

        void refresh() {
            if (known) {
                return;
            }
            known = true;
            for (int b = 0; b < script.boards; b++) {
                Board board = script.rows[b];
                givers[b] = 0;
                for (int c = 0; c < rig.cameras; c++) {
                    int from = rig.places[c];
                    givers[b] |= judge.fault(from, board) == 0 ? 1 << c : 0;
                    sides[b * MAX_CAMERAS + c] = board.kind == TWO ? judge.sideOfLesser(from, board) : 0;
                }
            }
            used = search();
            if (used >= 0) {
                writeRow();
                writeSequence();
            }
        }

        /** Finds the set of cameras: the fewest, then the least mask. A set with fewer used was looked at before. */
        private int search() {
            int all = (1 << rig.cameras) - 1;
            if (!canFilm(all)) {
                return NO_PLAN;
            }
            for (int many = 0; many <= rig.cameras; many++) {
                for (int set = 0; set <= all; set++) {
                    if (Integer.bitCount(set) == many && canFilm(set)) {
                        chosen = set;
                        return many;
                    }
                }
            }
            return NO_PLAN;
        }

        /** Whether a set of cameras has a strict plan; from the last board to the first. */
        private boolean canFilm(int set) {
            int end = script.boards * 3;
            canGoOn[end] = true;
            canGoOn[end + 1] = true;
            canGoOn[end + 2] = true;
            for (int b = script.boards - 1; b >= 0; b--) {
                for (int last = -1; last <= 1; last++) {
                    canGoOn[b * 3 + last + 1] = firstFor(b, last, set) >= 0;
                }
            }
            return canGoOn[1];
        }

        /** The least camera of a set that can take a board so that the rest can be filmed, or NONE. */
        private int firstFor(int b, int last, int set) {
            for (int c = 0; c < rig.cameras; c++) {
                if ((set & givers[b] & 1 << c) != 0 && fits(b, last, c)) {
                    return c;
                }
            }
            return NONE;
        }

        private boolean fits(int b, int last, int camera) {
            int now = sides[b * MAX_CAMERAS + camera];
            boolean crosses = script.rows[b].cutsOnPair && last * now < 0;
            return !crosses && canGoOn[(b + 1) * 3 + 1 + sideAfter(b, last, camera)];
        }

        /** The side of the last two once a board has been filmed: boards that are no two leave it. */
        private int sideAfter(int b, int last, int camera) {
            return script.rows[b].kind == TWO ? sides[b * MAX_CAMERAS + camera] : last;
        }

        /** The first row of cameras, with what canFilm left for the chosen set. */
        private void writeRow() {
            int last = 0;
            for (int b = 0; b < script.boards; b++) {
                int camera = Math.max(0, firstFor(b, last, chosen));
                row[b] = camera;
                last = sideAfter(b, last, camera);
            }
        }

        /** Fewest changes: each light's cameras stand together; so the least camera goes first, then its light's. */
        private void writeSequence() {
            int left = chosen;
            int light = NONE;
            for (int i = 0; i < used; i++) {
                int next = leastOf(left, light);
                if (next < 0) {
                    next = Math.max(0, leastOf(left, NONE));
                }
                sequence[i] = next;
                light = rig.lights[next];
                left &= ~(1 << next);
            }
        }

        /** The least camera of a set with a light (NONE: any light), or NONE. */
        private int leastOf(int set, int light) {
            for (int c = 0; c < rig.cameras; c++) {
                if ((set >> c & 1) != 0 && (light < 0 || rig.lights[c] == light)) {
                    return c;
                }
            }
            return NONE;
        }

        int turns() {
            int changes = 0;
            for (int b = 1; b < script.boards; b++) {
                if (rig.lights[row[b]] != rig.lights[row[b - 1]]) {
                    changes++;
                }
            }
            return changes;
        }
    }
}
