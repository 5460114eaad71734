/** Objects that several tests begin with. */
final class Sets {
    static final int CLOSE = 1, MIDDLE = 2, WIDE = 4, ANY = 7;

    private Sets() {
    }

    /** So many persons in a column at x 20, y 8 and up: from (10, 10) each is seen, and none hides another. */
    static ShotBoard persons(int many) {
        ShotBoard x = new ShotBoard();
        for (int p = 0; p < many; p++) {
            x.person(2008 + p);
        }
        return x;
    }

    /** One person at (10, 10), so many cameras about it that all give all boards, and so many boards. */
    static ShotBoard camerasAndBoards(int cameras, int boards) {
        ShotBoard x = new ShotBoard();
        x.person(1010);
        for (int c = 0; c < cameras; c++) {
            x.camera(1300 + c, c % 4);
        }
        for (int b = 0; b < boards; b++) {
            x.board(0, ANY, b, 0);
        }
        return x;
    }

    /** Speakers 0 at (10, 10) and 1 at (14, 10), and a third person at (12, 12). */
    static ShotBoard speakers() {
        ShotBoard x = new ShotBoard();
        x.person(1010);
        x.person(1410);
        x.person(1212);
        return x;
    }

    /**
     * Eight boards, each of which one camera alone gives: a person comes close to each at a tick of its own.
     * Cameras that come before are idle: they stand where nobody is ever close.
     */
    static ShotBoard oneCameraEach(int idle, int... lights) {
        ShotBoard x = new ShotBoard();
        int[] places = {0, 1000, 2000, 3000, 20, 1020, 2020, 3020};
        x.person(places[0] + 1);
        for (int c = 0; c < idle; c++) {
            x.camera(1510 + c, 0);
        }
        for (int b = 0; b < lights.length; b++) {
            x.camera(places[b], lights[b]);
            if (b > 0) {
                x.step(0, b, places[b] + 1);
            }
            x.board(0, CLOSE, 101 * b, 0);
        }
        return x;
    }

    static void tell(ShotBoard x, int... cameras) {
        for (int c : cameras) {
            x.list(c);
        }
    }
}
