import java.util.ArrayList;
import java.util.List;
import java.util.Random;

/** Long runs of calls, of the class and of the model side by side; every answer must be the same. */
public final class ModelTest {
    private static final String[] ASKS = {"where", "hidden", "sees", "size", "gives", "why", "side", "length",
        "run", "frame", "count", "list", "rate"};
    private static final String[] PLANS = {"fewest", "plan", "swings", "order"};
    private static final int[] ODD = {-1, -2, 100, 3132, 32, 60, Integer.MIN_VALUE, Integer.MAX_VALUE, -100, 64};

    private final Random random;
    private final ShotBoard object = new ShotBoard();
    private final Model model = new Model();
    private final int area;
    private final int mostPersons;
    private final int mostCameras;
    private final int mostBoards;
    private final int mostWalls;
    private final List<String> calls = new ArrayList<>();
    private final Check check;
    private int plansWithMany;
    private int listsThatCross;

    private ModelTest(int run, Check check) {
        this.check = check;
        random = new Random(run);
        area = run % 4 == 0 ? 31 : 4 + random.nextInt(12);
        // All rows are tried by the model, so many cameras go with few boards.
        int[][] most = {{10, 3}, {3, 8}, {2, 8}, {5, 5}, {4, 6}};
        mostCameras = most[run % most.length][0];
        mostBoards = most[run % most.length][1];
        mostPersons = run % 6 == 0 ? 7 : 2 + random.nextInt(3);
        mostWalls = run % 7 == 0 ? 12 : run % 3;
    }

    public static void main(String[] args) {
        Check check = new Check("ModelTest");
        int plans = 0;
        int lists = 0;
        for (int run = 0; run < 500 && !check.hasWrong(); run++) {
            ModelTest test = new ModelTest(run, check);
            test.run();
            plans += test.plansWithMany;
            lists += test.listsThatCross;
        }
        System.out.println("plans with two cameras or more: " + plans + ", lists that cross: " + lists);
        check.holds("too few of them to tell anything", plans > 300 && lists > 200);
        check.end();
    }

    private void run() {
        // An object has 512 calls, and one turn of this loop makes at most some twenty.
        for (int i = 0; i < 512 && calls.size() < 480 && !check.hasWrong(); i++) {
            int kind = random.nextInt(100);
            // Half of the runs are told first and asked then; the others change throughout.
            int changes = area % 2 == 0 ? 30 : i < 60 ? 70 : 6;
            if (i < 12 || kind < changes) {
                change(i);
            } else if (kind < 86) {
                ask(ASKS[random.nextInt(ASKS.length)]);
            } else if (kind < 96) {
                ask(PLANS[random.nextInt(PLANS.length)]);
            } else if (kind < 97) {
                ask("views");
            } else {
                tellList();
            }
        }
        if (check.hasWrong()) {
            System.out.println(String.join("\n", calls));
        }
    }

    private void change(int i) {
        int kind = i < 3 ? 0 : i < 6 ? 20 : random.nextInt(100);
        if (kind < 8) {
            if (model.answer("count", 0, 0, 0, 0) < mostPersons) {
                same("person", place(), 0, 0, 0);
            }
        } else if (kind < 30) {
            if (model.answer("count", 2, 0, 0, 0) < mostCameras) {
                same("camera", place(), number(4), 0, 0);
            }
        } else if (kind < 42) {
            same("step", number(6), tick(), place(), 0);
        } else if (kind < 50) {
            if (model.answer("count", 1, 0, 0, 0) < mostWalls) {
                same("wall", place(), place(), 0, 0);
            }
        } else if (kind < 58) {
            same("open", 0, 0, 0, 0);
        } else if (kind < 88) {
            for (int more = 0; more < 5 && model.answer("count", 3, 0, 0, 0) < mostBoards; more++) {
                same("board", who(), random.nextInt(3) > 0 ? 7 : number(8), span(), number(201));
                dropWhatNobodyGives();
            }
        } else {
            same("drop", 0, 0, 0, 0);
        }
    }

    /** A board that no camera gives leaves no plan, so most of these go again, with all that came later. */
    private void dropWhatNobodyGives() {
        int boards = model.answer("count", 3, 0, 0, 0);
        int given = 0;
        while (given < boards && isGiven(given)) {
            given++;
        }
        for (int b = boards; b > given && random.nextInt(20) > 0; b--) {
            same("drop", 0, 0, 0, 0);
        }
    }

    private boolean isGiven(int board) {
        for (int c = 0; c < mostCameras; c++) {
            if (model.answer("gives", c, board, 0, 0) == 1) {
                return true;
            }
        }
        return false;
    }

    private void ask(String call) {
        switch (call) {
            case "where", "views" -> same(call, number(6), tick(), 0, 0);
            case "hidden" -> same(call, number(6), tick(), place(), 0);
            case "sees" -> same(call, number(6), number(3), number(3), tick());
            case "size" -> same(call, number(6), number(6), tick(), 0);
            case "gives", "why", "side" -> same(call, number(mostCameras), number(mostBoards), 0, 0);
            case "frame" -> same(call, number(300), 0, 0, 0);
            case "rate" -> same(call, number(22), 0, 0, 0);
            case "count" -> same(call, number(6), 0, 0, 0);
            case "list" -> same(call, number(mostCameras), 0, 0, 0);
            default -> same(call, number(mostBoards), 0, 0, 0);
        }
    }

    /** Tells a list that is mostly a plan, so that crossings has something to count. */
    private void tellList() {
        int boards = model.answer("count", 3, 0, 0, 0);
        int cameras = model.answer("count", 2, 0, 0, 0);
        if (random.nextInt(4) > 0) {
            same("crossings", 0, 0, 0, 0);
        }
        for (int b = 0; b < boards && cameras > 0; b++) {
            int camera = random.nextInt(cameras);
            for (int i = 0; i < 20 && model.answer("gives", camera, b, 0, 0) == 0; i++) {
                camera = random.nextInt(cameras);
            }
            same("list", camera, 0, 0, 0);
        }
        same("crossings", 0, 0, 0, 0);
        same("count", 4, 0, 0, 0);
    }

    private int number(int below) {
        return random.nextInt(40) == 0 ? ODD[random.nextInt(ODD.length)] : random.nextInt(below);
    }

    private int place() {
        if (random.nextInt(40) == 0) {
            return ODD[random.nextInt(ODD.length)];
        }
        return 100 * random.nextInt(area + 1) + random.nextInt(area + 1);
    }

    private int tick() {
        return random.nextInt(5) == 0 ? number(62) : random.nextInt(10);
    }

    private int span() {
        if (random.nextInt(12) == 0) {
            return number(7000);
        }
        int first = random.nextInt(8);
        return 100 * first + first + random.nextInt(4);
    }

    private int who() {
        if (random.nextInt(12) == 0) {
            return number(4000);
        }
        int kind = random.nextInt(5);
        int persons = Math.max(1, Math.min(3, model.answer("count", 0, 0, 0, 0)));
        return 1000 * (kind > 2 ? 1 : kind) + 100 * random.nextInt(persons) + random.nextInt(1 << persons);
    }

    private void same(String call, int a, int b, int c, int d) {
        int want = model.answer(call, a, b, c, d);
        int got = answer(call, a, b, c, d);
        String told = call + "(" + a + ", " + b + ", " + c + ", " + d + ")";
        calls.add(told + " = " + got);
        check.due(told, got, want);
        plansWithMany += call.equals("order") && a > 0 && got >= 0 ? 1 : 0;
        plansWithMany += call.equals("fewest") && got > 1 ? 1 : 0;
        listsThatCross += call.equals("crossings") && got > 0 ? 1 : 0;
    }

    private int answer(String call, int a, int b, int c, int d) {
        return switch (call) {
            case "person" -> object.person(a);
            case "step" -> object.step(a, b, c);
            case "wall" -> object.wall(a, b);
            case "open" -> object.open();
            case "camera" -> object.camera(a, b);
            case "board" -> object.board(a, b, c, d);
            case "drop" -> object.drop();
            case "rate" -> object.rate(a);
            case "where" -> object.where(a, b);
            case "hidden" -> object.hidden(a, b, c);
            case "sees" -> object.sees(a, b, c, d);
            case "size" -> object.size(a, b, c);
            case "views" -> object.views(a, b);
            case "gives" -> object.gives(a, b);
            case "why" -> object.why(a, b);
            case "side" -> object.side(a, b);
            case "length" -> object.length(a);
            case "fewest" -> object.fewest();
            case "plan" -> object.plan(a);
            case "swings" -> object.swings();
            case "order" -> object.order(a);
            case "crossings" -> object.crossings();
            case "list" -> object.list(a);
            case "run" -> object.run();
            case "frame" -> object.frame(a);
            case "count" -> object.count(a);
            default -> throw new IllegalArgumentException(call);
        };
    }
}
