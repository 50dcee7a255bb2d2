/** Promises 11 and 12: way, step. */
public final class WayTest {
    private static final Due DUE = new Due();

    public static void main(String[] args) {
        lowestLastPieces();
        lastPieceIsLookedForFromTheEnd();
        roundingCountsEachPiece();
        unitsDiffer();
        noWay();
        stepsBeforeAWay();
        stepsOfTheLatestWayAlone();
        stepsStay();
        longest();
        refusals();
        DUE.end();
    }

    private static void lowestLastPieces() {
        WayTimes x = new WayTimes();
        x.net(3);
        x.piece(0, 1, 2000, 36);
        x.piece(1, 2, 1000, 36);
        x.piece(2, 1, 1000, 36);
        x.piece(0, 1, 1000, 36);
        x.piece(1, 0, 1000, 36);
        x.unit(2, 0, 0, 1, 1);
        DUE.same("there", x.way(0, 0, 2, 0), 200);
        DUE.steps("there", x, 3, 1);
        DUE.same("back", x.way(0, 2, 0, 0), 200);
        DUE.steps("back", x, 1, 3);
        DUE.same("to itself", x.way(0, 1, 1, 0), 0);
        DUE.steps("to itself", x);
    }

    private static void lastPieceIsLookedForFromTheEnd() {
        WayTimes x = new WayTimes();
        x.net(4);
        x.piece(0, 1, 1000, 36);
        x.piece(2, 3, 1000, 36);
        x.piece(0, 2, 1000, 36);
        x.piece(1, 3, 1000, 36);
        x.unit(0, 0, 0, 1, 1);
        DUE.same("over 1 or over 2", x.way(0, 0, 3, 0), 200);
        DUE.steps("the lower last piece, not the lower first one", x, 2, 1);
        DUE.same("back", x.way(0, 3, 0, 0), 200);
        DUE.steps("back by its own last pieces", x, 3, 0);
    }

    private static void roundingCountsEachPiece() {
        WayTimes x = new WayTimes();
        x.net(3);
        x.piece(0, 1, 1, 200);
        x.piece(1, 2, 1, 200);
        x.piece(0, 2, 50, 200);
        x.unit(0, 0, 0, 1, 1);
        DUE.same("one long piece beats two rounded ones", x.way(0, 0, 2, 0), 1);
        DUE.steps("one long piece", x, 2);
    }

    private static void unitsDiffer() {
        WayTimes x = new WayTimes();
        x.net(3);
        x.piece(0, 2, 1000, 36);
        x.piece(0, 1, 1000, 36);
        x.piece(1, 2, 1000, 36);
        x.unit(0, 10, 0, 1, 1);
        x.unit(0, 11, 0, 2, 1);
        x.limit(0, 10, 0);
        DUE.same("light", x.way(0, 0, 2, 0), 100);
        DUE.steps("light", x, 0);
        DUE.same("heavy and fast", x.way(1, 0, 2, 0), 100);
        DUE.steps("heavy and fast", x, 1, 2);
        x.slow(0, 8, 8, 40);
        DUE.same("in hour 8 the other way is less", x.way(0, 0, 2, 8 * 3600), 200);
        DUE.steps("in hour 8", x, 1, 2);
        DUE.same("the time at which it begins counts", x.way(0, 0, 2, 8 * 3600 - 1), 100);
    }

    private static void noWay() {
        WayTimes x = Due.row(4);
        x.close(1, true);
        DUE.same("none there", x.way(0, 0, 3, 0), -1);
        DUE.steps("none there", x);
        DUE.same("none back", x.way(0, 3, 0, 0), -1);
        DUE.steps("none back", x);
        DUE.same("to the last node that is reached", x.way(0, 0, 1, 0), 100);
        DUE.steps("to the last node that is reached", x, 0);
        x.net(2);
        x.unit(0, 0, 0, 1, 1);
        DUE.same("without pieces", x.way(0, 0, 1, 0), -1);
        DUE.same("without pieces to itself", x.way(0, 1, 1, 0), 0);
    }

    private static void stepsBeforeAWay() {
        WayTimes x = new WayTimes();
        DUE.steps("of a new object", x);
        DUE.outside("of a new object, step -1", () -> x.step(-1));
        x.net(2);
        x.piece(0, 1, 1000, 36);
        x.unit(0, 0, 0, 1, 1);
        x.walk(0, 0, 1, 0, 1);
        x.rest(0, 0, 1, 1, 0);
        x.nearest(1, 0);
        x.keep(0, 0, 0, 0);
        x.kept(0, 1);
        DUE.steps("before a way", x);
    }

    private static void stepsOfTheLatestWayAlone() {
        WayTimes x = Due.row(4);
        x.way(0, 0, 3, 0);
        DUE.steps("three", x, 0, 1, 2);
        x.way(0, 2, 1, 0);
        DUE.steps("one behind three", x, 1);
        x.way(0, 3, 1, 0);
        DUE.steps("two behind one", x, 2, 1);
        x.way(0, 3, 3, 0);
        DUE.steps("none behind two", x);
        x.way(0, 0, 2, 0);
        x.close(2, true);
        x.way(0, 0, 3, 0);
        DUE.steps("of one that is not there, behind two", x);
    }

    private static void stepsStay() {
        WayTimes x = Due.row(4);
        x.way(0, 0, 2, 0);
        x.keep(0, 3, 0, 0);
        x.close(0, true);
        x.walk(0, 3, 1, 0, 2);
        x.rest(0, 1, 5, 3, 0);
        x.nearest(0, 0);
        x.piece(0, 2, 1, 200);
        DUE.unknown("a refused way", () -> x.way(0, 0, 4, 0));
        DUE.steps("of the latest way", x, 0, 1);
        x.close(3, true);
        DUE.same("no way", x.way(0, 0, 3, 0), -1);
        DUE.steps("of no way", x);
        DUE.outside("step -1", () -> x.step(-1));
        DUE.outside("step lowest", () -> x.step(Integer.MIN_VALUE));
    }

    private static void longest() {
        WayTimes x = Due.row(151);
        DUE.same("150 pieces", x.way(0, 150, 0, 0), 15000);
        int[] want = new int[150];
        for (int i = 0; i < 150; i++) {
            want[i] = 149 - i;
        }
        DUE.steps("150 pieces", x, want);
    }

    private static void refusals() {
        WayTimes x = Due.row(2);
        DUE.unknown("unit -1", () -> x.way(-1, 0, 0, 0));
        DUE.unknown("unit 1 of 1", () -> x.way(1, 0, 0, 0));
        DUE.unknown("a -1", () -> x.way(0, -1, 0, 0));
        DUE.unknown("a 2 of 2", () -> x.way(0, 2, 0, 0));
        DUE.unknown("b -1", () -> x.way(0, 0, -1, 0));
        DUE.unknown("b 2 of 2", () -> x.way(0, 0, 2, -1));
        DUE.unknown("the unit comes before t", () -> x.way(1, 0, 1, -1));
        DUE.unknown("a comes before t", () -> x.way(0, 2, 1, -1));
        DUE.outside("t -1", () -> x.way(0, 0, 1, -1));
        DUE.outside("t lowest", () -> x.way(0, 0, 1, Integer.MIN_VALUE));
        DUE.same("the greatest time", x.way(0, 0, 1, Integer.MAX_VALUE), 100);
    }
}
