/** Promise 13: walk. */
public final class WalkTest {
    private static final Due DUE = new Due();

    public static void main(String[] args) {
        onOnePiece();
        sameSecondsCountEach();
        onATriangle();
        lesserWalksThatComeInLater();
        walksOfOtherUnitsAndHours();
        ofNoPieces();
        refusals();
        DUE.end();
    }

    private static void walks(String what, WayTimes x, int a, int b, long... want) {
        for (int n = 1; n <= want.length; n++) {
            DUE.same(what + " walk " + n, x.walk(0, a, b, 0, n), want[n - 1]);
        }
    }

    private static void onOnePiece() {
        WayTimes x = Due.row(2);
        walks("there", x, 0, 1, 100, 300, 500, 700, 900, 1100);
        walks("and back", x, 1, 1, 0, 200, 400, 600, 800, 1000);
    }

    private static void sameSecondsCountEach() {
        WayTimes x = new WayTimes();
        x.net(2);
        x.piece(0, 1, 1000, 36);
        x.piece(1, 0, 1000, 36);
        x.unit(0, 0, 0, 1, 1);
        walks("there", x, 0, 1, 100, 100, 300, 300, 300, 300);
        walks("and back", x, 0, 0, 0, 200, 200, 200, 200, 400);
        x.piece(0, 1, 3000, 36);
        walks("a third piece", x, 0, 1, 100, 100, 300, 300, 300, 300);
    }

    private static void onATriangle() {
        WayTimes x = new WayTimes();
        x.net(3);
        x.piece(0, 1, 10, 36);
        x.piece(1, 2, 20, 36);
        x.piece(2, 0, 40, 36);
        x.unit(0, 0, 0, 1, 1);
        // By nodes: 012, 02, 01012, 0102, 0101012, 01212.
        walks("there", x, 0, 2, 3, 4, 5, 6, 7, 7);
        // By nodes: 0, 010, 01010, 0101010, 01210, 0120 (and 0210 of the same seconds).
        walks("to itself", x, 0, 0, 0, 2, 4, 6, 6, 7);
    }

    /** Six walks straight to 1 are known before the lesser ones over 2 push them out, one after the other. */
    private static void lesserWalksThatComeInLater() {
        WayTimes x = new WayTimes();
        x.net(4);
        for (int i = 0; i < 6; i++) {
            x.piece(0, 1, 1000 - 10 * i, 36);
        }
        x.piece(0, 2, 10, 36);
        x.piece(2, 1, 10, 36);
        x.unit(0, 0, 0, 1, 1);
        walks("over 2", x, 0, 1, 2, 4, 4, 6, 6, 6);
        walks("to 2", x, 0, 2, 1, 3, 3, 5, 5, 5);
        walks("to 3", x, 0, 3, -1, -1, -1, -1, -1, -1);
        x.speed(7, 1);
        // Over 2 it is 1 and 36 seconds; to and fro between 0 and 2 it is 2 more each time.
        walks("over a slow piece", x, 0, 1, 37, 39, 41, 43, 45, 47);
        x.slow(7, 0, 23, 38);
        // Over 2 it is 1 and 95 seconds; piece 5 takes 95, piece 4 takes 96.
        walks("over a slower piece", x, 0, 1, 95, 96, 96, 97, 97, 98);
    }

    private static void walksOfOtherUnitsAndHours() {
        WayTimes x = new WayTimes();
        x.net(2);
        x.piece(0, 1, 1000, 36);
        x.piece(0, 1, 1500, 36);
        x.unit(0, 10, 0, 1, 1);
        walks("both pieces", x, 0, 1, 100, 150, 300, 350, 350, 350);
        x.limit(0, 9, 0);
        walks("the longer piece alone", x, 0, 1, 150, 450, 750, 1050, 1350, 1650);
        x.slow(1, 0, 0, 50);
        walks("in hour 0", x, 0, 1, 300, 900, 1500, 2100, 2700, 3300);
        DUE.same("in hour 1, walk 6", x.walk(0, 0, 1, 3600, 6), 1650);
        DUE.same("in hour 0 of another day, walk 6", x.walk(0, 0, 1, 24 * 3600, 6), 3300);
    }

    private static void ofNoPieces() {
        WayTimes x = Due.row(3);
        x.speed(1, 0);
        x.close(0, true);
        walks("nothing leads away", x, 1, 1, 0, -1, -1, -1, -1, -1);
        walks("nothing leads there", x, 0, 2, -1, -1, -1, -1, -1, -1);
        x.close(0, false);
        walks("behind opening", x, 1, 1, 0, 200, 400, 600, 800, 1000);
    }

    private static void refusals() {
        WayTimes x = Due.row(2);
        DUE.unknown("unit -1", () -> x.walk(-1, 0, 0, 0, 1));
        DUE.unknown("unit 1 of 1", () -> x.walk(1, 0, 0, 0, 1));
        DUE.unknown("a -1", () -> x.walk(0, -1, 0, 0, 1));
        DUE.unknown("a 2 of 2", () -> x.walk(0, 2, 0, 0, 1));
        DUE.unknown("b -1", () -> x.walk(0, 0, -1, 0, 1));
        DUE.unknown("b 2 of 2", () -> x.walk(0, 0, 2, -1, 0));
        DUE.outside("t -1", () -> x.walk(0, 0, 1, -1, 1));
        DUE.outside("n 0", () -> x.walk(0, 0, 1, 0, 0));
        DUE.outside("n -1", () -> x.walk(0, 0, 1, 0, -1));
        DUE.outside("n 7", () -> x.walk(0, 0, 1, 0, 7));
        DUE.unknown("the unit comes before n", () -> x.walk(1, 0, 1, 0, 7));
        DUE.unknown("a comes before n", () -> x.walk(0, 2, 1, 0, 7));
        DUE.unknown("b comes before n", () -> x.walk(0, 0, 2, 0, 7));
        x.close(0, true);
        DUE.outside("n 7 without a walk", () -> x.walk(0, 0, 1, 0, 7));
        DUE.outside("n 0 without a walk", () -> x.walk(0, 0, 1, 0, 0));
    }
}
