/** Promises 4 to 7: limit, slow, close, speed. */
public final class ChangeTest {
    private static final Due DUE = new Due();

    public static void main(String[] args) {
        limits();
        limitsReplaceEachOther();
        limitRefusals();
        slowHours();
        slowTakesItsEdges();
        rowsOutliveOtherChanges();
        slowRefusals();
        closes();
        aNewPieceIsOpen();
        speeds();
        speedTakesItsEdges();
        countsTreesThatTellOthers();
        countsNoneAndAllSix();
        countsATreeOnceForManyNodes();
        countsEachCallAgainstTheOneBefore();
        DUE.end();
    }

    private static void limits() {
        WayTimes x = new WayTimes();
        x.net(2);
        x.piece(0, 1, 1000, 36);
        x.unit(0, 10, 20, 1, 1);
        x.keep(0, 0, 0, 0);
        DUE.same("limits at the unit's own", x.limit(0, 10, 20), 0);
        DUE.same("way at the limits", x.way(0, 0, 1, 0), 100);
        DUE.same("weight limit below", x.limit(0, 9, 20), 1);
        DUE.same("way above the weight limit", x.way(0, 0, 1, 0), -1);
        DUE.same("tree above the weight limit", x.kept(0, 1), -1);
        DUE.same("height limit below", x.limit(0, 10, 19), 0);
        DUE.same("way above the height limit", x.way(0, 0, 1, 0), -1);
        DUE.same("seconds all the same", x.seconds(0, 0, 0), 100);
        DUE.same("limits of 0 are none", x.limit(0, 0, 0), 1);
        DUE.same("way without limits", x.way(0, 0, 1, 0), 100);
        DUE.same("only a weight limit", x.limit(0, 1000, 0), 0);
        DUE.same("only a height limit", x.limit(0, 0, 1), 1);
    }

    private static void limitsReplaceEachOther() {
        WayTimes x = new WayTimes();
        x.net(2);
        x.piece(0, 1, 1000, 36);
        x.unit(0, 10, 0, 1, 1);
        x.unit(0, 0, 10, 1, 1);
        x.limit(0, 9, 0);
        DUE.same("the heavy one does not go", x.way(0, 0, 1, 0), -1);
        DUE.same("the high one goes", x.way(1, 0, 1, 0), 100);
        x.limit(0, 0, 9);
        DUE.same("the heavy one goes", x.way(0, 0, 1, 0), 100);
        DUE.same("the high one does not go", x.way(1, 0, 1, 0), -1);
        x.limit(0, 1000, 1000);
        DUE.same("the heavy one goes at 1,000", x.way(0, 0, 1, 0), 100);
        DUE.same("the high one goes at 1,000", x.way(1, 0, 1, 0), 100);
    }

    private static void limitRefusals() {
        WayTimes x = Due.row(2);
        DUE.unknown("piece -1", () -> x.limit(-1, 0, 0));
        DUE.unknown("piece 1 of 1", () -> x.limit(1, 0, 0));
        DUE.outside("weight -1", () -> x.limit(0, -1, 0));
        DUE.outside("weight 1001", () -> x.limit(0, 1001, 0));
        DUE.outside("height -1", () -> x.limit(0, 1, -1));
        DUE.outside("height 1001", () -> x.limit(0, 1, 1001));
        DUE.unknown("the piece comes before the range", () -> x.limit(1, -1, 0));
        x.unit(0, 5, 0, 1, 1);
        DUE.same("refused limits are not there", x.way(1, 0, 1, 0), 100);
    }

    private static void slowHours() {
        WayTimes x = Due.row(2);
        DUE.same("hours 7 to 9", x.slow(0, 7, 9, 50), 0);
        DUE.same("hours 9 to 9", x.slow(0, 9, 9, 10), 0);
        DUE.same("hours 0 to 23", x.slow(0, 0, 23, 80), 0);
        DUE.same("second before hour 7", x.seconds(0, 0, 7 * 3600 - 1), 125);
        DUE.same("first second of hour 7", x.seconds(0, 0, 7 * 3600), 200);
        DUE.same("hour 9 is of the first row", x.seconds(0, 0, 9 * 3600), 200);
        DUE.same("last second of hour 9", x.seconds(0, 0, 10 * 3600 - 1), 200);
        DUE.same("hour 10", x.seconds(0, 0, 10 * 3600), 125);
        DUE.same("hour 23", x.seconds(0, 0, 24 * 3600 - 1), 125);
        DUE.same("hour 7 of another day", x.seconds(0, 0, (5 * 24 + 7) * 3600), 200);
        DUE.same("the greatest time", x.seconds(0, 0, Integer.MAX_VALUE), 125);
        DUE.same("way in hour 7", x.way(0, 0, 1, 7 * 3600), 200);
    }

    private static void slowTakesItsEdges() {
        WayTimes x = Due.row(5);
        x.keep(0, 0, 0, 0);
        DUE.same("0 to 0 at percent 1", x.slow(0, 0, 0, 1), 1);
        DUE.same("seconds at percent 1", x.seconds(0, 0, 0), 10_000);
        DUE.same("23 to 23 at percent 100", x.slow(1, 23, 23, 100), 0);
        DUE.same("0 to 23 at percent 99", x.slow(2, 0, 23, 99), 1);
        DUE.same("seconds at percent 99", x.seconds(0, 2, 0), 102);
        DUE.same("22 to 23", x.slow(3, 22, 23, 50), 0);
        DUE.same("seconds in hour 23", x.seconds(0, 3, 23 * 3600), 200);
        for (int row = 1; row < 3; row++) {
            DUE.same("row " + row, x.slow(0, 1, 1, 1), 0);
        }
        DUE.noRoom("a fourth row", () -> x.slow(0, 0, 0, 1));
        DUE.same("a third row of another piece", x.slow(1, 0, 0, 100) + x.slow(1, 0, 0, 100), 0);
        DUE.noRoom("a fourth row of that", () -> x.slow(1, 0, 0, 100));
    }

    private static void rowsOutliveOtherChanges() {
        WayTimes x = Due.row(2);
        x.slow(0, 0, 23, 50);
        x.close(0, true);
        x.slow(0, 0, 23, 10);
        x.close(0, false);
        x.speed(0, 72);
        x.limit(0, 5, 5);
        DUE.same("the first row still counts", x.seconds(0, 0, 0), 100);
        DUE.same("one row is left", x.slow(0, 0, 0, 1), 0);
        DUE.noRoom("no row is left", () -> x.slow(0, 0, 0, 1));
    }

    private static void slowRefusals() {
        WayTimes x = Due.row(2);
        DUE.unknown("piece -1", () -> x.slow(-1, 0, 0, 1));
        DUE.unknown("piece 1 of 1", () -> x.slow(1, 0, 0, 1));
        DUE.outside("from -1", () -> x.slow(0, -1, 0, 1));
        DUE.outside("from 24", () -> x.slow(0, 24, 24, 1));
        DUE.outside("to 24", () -> x.slow(0, 0, 24, 1));
        DUE.outside("to below from", () -> x.slow(0, 5, 4, 1));
        DUE.outside("percent 0", () -> x.slow(0, 0, 0, 0));
        DUE.outside("percent 101", () -> x.slow(0, 0, 0, 101));
        for (int row = 0; row < 3; row++) {
            DUE.same("row " + row, x.slow(0, 23, 23, 100), 0);
        }
        DUE.noRoom("row 3", () -> x.slow(0, 0, 0, 1));
        DUE.outside("the range comes before the room", () -> x.slow(0, 0, 0, 0));
        DUE.unknown("the piece comes before percent", () -> x.slow(1, 0, 0, 0));
        DUE.unknown("the piece comes before the hours", () -> x.slow(1, -1, 24, 1));
        DUE.outside("the hours come before the room", () -> x.slow(0, 5, 4, 1));
        DUE.unknown("the piece comes before the room", () -> x.slow(-1, 0, 0, 1));
        DUE.same("a refused row is not there", x.seconds(0, 0, 0), 100);
    }

    private static void closes() {
        WayTimes x = Due.row(2);
        x.keep(0, 1, 0, 0);
        DUE.refused(IllegalStateException.class, "open already", () -> x.close(0, false));
        DUE.same("close", x.close(0, true), 1);
        DUE.refused(IllegalStateException.class, "closed already", () -> x.close(0, true));
        DUE.same("way over a closed piece", x.way(0, 0, 1, 0), -1);
        DUE.same("tree over a closed piece", x.kept(0, 0), -1);
        DUE.same("seconds of a closed piece", x.seconds(0, 0, 0), 100);
        DUE.same("open", x.close(0, false), 1);
        DUE.same("way over an open piece", x.way(0, 0, 1, 0), 100);
        DUE.unknown("piece -1", () -> x.close(-1, true));
        DUE.unknown("piece 1 of 1", () -> x.close(1, false));
    }

    private static void aNewPieceIsOpen() {
        WayTimes x = Due.row(2);
        DUE.notInState("open at first", () -> x.close(0, false));
        DUE.same("close without trees", x.close(0, true), 0);
        DUE.same("open without trees", x.close(0, false), 0);
        DUE.notInState("open again", () -> x.close(0, false));
        DUE.same("close again", x.close(0, true), 0);
        x.speed(0, 0);
        DUE.notInState("closed whatever its speed", () -> x.close(0, true));
    }

    private static void speeds() {
        WayTimes x = Due.row(2);
        x.keep(0, 0, 0, 0);
        DUE.same("the same speed", x.speed(0, 36), 0);
        DUE.same("speed 200", x.speed(0, 200), 1);
        DUE.same("seconds at 200", x.seconds(0, 0, 0), 18);
        DUE.same("tree at 200", x.kept(0, 1), 18);
        DUE.same("speed 0", x.speed(0, 0), 1);
        DUE.same("nobody goes at 0", x.way(0, 0, 1, 0), -1);
        DUE.same("a closed piece gets a speed", x.close(0, true) + x.speed(0, 36), 0);
        DUE.same("and is open with it", x.close(0, false), 1);
        DUE.unknown("piece -1", () -> x.speed(-1, 1));
        DUE.unknown("piece 1 of 1", () -> x.speed(1, 201));
        DUE.outside("speed -1", () -> x.speed(0, -1));
        DUE.outside("speed 201", () -> x.speed(0, 201));
        DUE.same("a refused speed is not there", x.way(0, 0, 1, 0), 100);
    }

    private static void speedTakesItsEdges() {
        WayTimes x = Due.row(2);
        x.keep(0, 0, 0, 0);
        DUE.same("speed 1", x.speed(0, 1), 1);
        DUE.tree("speed 1", x, 0, 0, 3600);
        DUE.same("speed 1 again", x.speed(0, 1), 0);
        DUE.same("speed 0", x.speed(0, 0), 1);
        DUE.tree("speed 0", x, 0, 0, -1);
        DUE.same("speed 0 again", x.speed(0, 0), 0);
        DUE.same("speed 200", x.speed(0, 200), 1);
        DUE.tree("speed 200", x, 0, 0, 18);
        DUE.same("speed 199 tells 19", x.speed(0, 199), 1);
        DUE.tree("speed 199", x, 0, 0, 19);
        DUE.same("speed 198 tells 19 too", x.speed(0, 198), 0);
    }

    private static void countsNoneAndAllSix() {
        WayTimes x = Due.row(3);
        DUE.same("no trees, limit", x.limit(0, 1, 1), 0);
        DUE.same("no trees, slow", x.slow(0, 0, 23, 50), 0);
        DUE.same("no trees, close", x.close(0, true), 0);
        DUE.same("no trees, speed", x.speed(0, 72), 0);
        x.close(0, false);
        x.limit(0, 0, 0);
        x.unit(0, 5, 0, 1, 1);
        for (int slot = 0; slot < 6; slot++) {
            x.keep(slot, slot % 3, 1, 0);
        }
        DUE.same("six trees, limit", x.limit(1, 4, 0), 6);
        DUE.same("six trees, limit gone", x.limit(1, 5, 0), 6);
        DUE.same("six trees, slow", x.slow(1, 0, 23, 50), 6);
        DUE.same("six trees, close", x.close(1, true), 6);
        DUE.same("six trees, a closed piece", x.speed(1, 200) + x.limit(1, 0, 0) + x.slow(1, 0, 23, 1), 0);
        DUE.same("six trees, open", x.close(1, false), 6);
        DUE.same("six trees, speed", x.speed(1, 1), 6);
        DUE.same("six trees, the same speed", x.speed(1, 1), 0);
        DUE.same("six trees, the same limits", x.limit(1, 0, 0), 0);
        DUE.same("six trees, limits that let pass", x.limit(1, 5, 1), 0);
    }

    private static void countsATreeOnceForManyNodes() {
        WayTimes x = Due.row(10);
        x.keep(2, 0, 0, 0);
        DUE.same("nine nodes have others", x.speed(0, 72), 1);
        DUE.same("one node has others", x.speed(8, 72), 1);
        DUE.same("only the last node is lost", x.close(8, true), 1);
        DUE.same("all nodes but the tree's own are lost", x.close(0, true), 1);
        x.keep(3, 9, 0, 0);
        DUE.same("only the tree at the other end has others", x.close(8, false), 1);
        DUE.same("out of reach of the one", x.speed(4, 72), 1);
    }

    private static void countsEachCallAgainstTheOneBefore() {
        WayTimes x = Due.row(2);
        x.keep(0, 0, 0, 0);
        DUE.same("slower", x.speed(0, 18), 1);
        DUE.same("as at first, but not as before", x.speed(0, 36), 1);
        x.keep(0, 1, 0, 0);
        DUE.same("a new tree in the slot tells its own", x.limit(0, 0, 0), 0);
        x.piece(0, 1, 500, 36);
        DUE.same("a piece is reckoned in at once", x.slow(0, 0, 0, 1), 0);
        x.close(1, true);
        DUE.tree("behind it the slow one is left", x, 0, 10_000, 0);
        x.stand(0, 1);
        DUE.same("stand() is no change of a tree", x.limit(0, 0, 0), 0);
    }

    private static void countsTreesThatTellOthers() {
        WayTimes x = Due.row(4);
        x.unit(0, 500, 0, 1, 1);
        x.keep(0, 0, 0, 0);
        x.keep(1, 3, 0, 12 * 3600);
        x.keep(2, 0, 1, 0);
        x.keep(3, 0, 1, 0);
        DUE.same("slow in hour 12 is for one tree", x.slow(0, 12, 12, 50), 1);
        DUE.same("limit is for the heavy unit's trees", x.limit(2, 499, 0), 2);
        DUE.same("close is for all that still go there", x.close(2, true), 2);
        DUE.same("and for none that do not", x.limit(2, 500, 0), 0);
        x.piece(0, 1, 2000, 36);
        DUE.same("a piece that no tree needs", x.close(3, true), 0);
        x.close(3, false);
        DUE.same("closed, another one serves", x.close(0, true), 3);
        DUE.same("tree over the other one", x.kept(0, 1), 200);
        DUE.same("seconds alike at noon", x.kept(1, 0), -1);
        x.close(2, false);
        DUE.same("open again, the noon tree tells the same", x.close(0, false), 3);
        DUE.same("noon tree", x.kept(1, 0), 400);
    }
}
