/** Promise 3: piece. */
public final class PieceTest {
    private static final Due DUE = new Due();

    public static void main(String[] args) {
        numbersAndRanges();
        edgesAreTaken();
        aNewPieceIsPlain();
        room();
        treesAreAsAnew();
        DUE.end();
    }

    private static void numbersAndRanges() {
        WayTimes x = new WayTimes();
        x.net(3);
        DUE.same("first piece", x.piece(0, 1, 1, 0), 0);
        DUE.same("a second one between the same nodes", x.piece(1, 0, 60000, 200), 1);
        DUE.unknown("one node", () -> x.piece(1, 1, 1, 1));
        DUE.unknown("a below 0", () -> x.piece(-1, 1, 1, 1));
        DUE.unknown("b below 0", () -> x.piece(1, -1, 1, 1));
        DUE.unknown("a is no node", () -> x.piece(3, 1, 1, 1));
        DUE.unknown("b is no node", () -> x.piece(1, 3, 1, 1));
        DUE.outside("metres 0", () -> x.piece(0, 1, 0, 1));
        DUE.outside("metres -1", () -> x.piece(0, 1, -1, 1));
        DUE.outside("metres 60001", () -> x.piece(0, 1, 60001, 1));
        DUE.outside("speed -1", () -> x.piece(0, 1, 1, -1));
        DUE.outside("speed 201", () -> x.piece(0, 1, 1, 201));
        DUE.unknown("the node comes before the range", () -> x.piece(0, 3, 0, 201));
        DUE.unknown("one node comes before the range", () -> x.piece(0, 0, 0, 201));
        DUE.same("refused pieces have no number", x.piece(1, 2, 1, 1), 2);
    }

    private static void edgesAreTaken() {
        WayTimes x = new WayTimes();
        x.net(200);
        x.unit(0, 0, 0, 1, 1);
        DUE.same("from the first node to the last", x.piece(0, 199, 1, 1), 0);
        DUE.same("1 metre at 1", x.seconds(0, 0, 0), 4);
        DUE.same("from the last node to the first", x.piece(199, 0, 60_000, 200), 1);
        DUE.same("60,000 metres at 200", x.seconds(0, 1, 0), 1080);
        DUE.same("1 metre at 200", x.piece(0, 1, 1, 200), 2);
        DUE.same("seconds of it", x.seconds(0, 2, 0), 1);
        DUE.same("60,000 metres at 1", x.piece(0, 1, 60_000, 1), 3);
        DUE.same("seconds of that", x.seconds(0, 3, 0), 216_000);
        DUE.same("speed 0", x.piece(0, 1, 1, 0), 4);
        DUE.refused(ArithmeticException.class, "seconds at speed 0", () -> x.seconds(0, 4, 0));
    }

    private static void aNewPieceIsPlain() {
        WayTimes x = Due.row(2);
        x.limit(0, 1, 1);
        x.slow(0, 0, 23, 1);
        x.close(0, true);
        x.unit(0, 1000, 1000, 1, 1);
        DUE.same("one more", x.piece(0, 1, 1000, 36), 1);
        DUE.same("it has no limits and is open", x.way(1, 0, 1, 0), 100);
        DUE.same("it has no rows", x.seconds(1, 1, 0), 100);
        DUE.notInState("it is open", () -> x.close(1, false));
        for (int row = 0; row < 3; row++) {
            DUE.same("it has room for row " + row, x.slow(1, 0, 0, 1), 0);
        }
        DUE.noRoom("and no more", () -> x.slow(1, 0, 0, 1));
    }

    private static void room() {
        WayTimes x = new WayTimes();
        x.net(2);
        for (int i = 0; i < 150; i++) {
            DUE.same("piece " + i, x.piece(0, 1, 1000 - i, 36), i);
        }
        DUE.noRoom("piece 150", () -> x.piece(0, 1, 1, 1));
        DUE.outside("the range comes before the room", () -> x.piece(0, 1, 0, 1));
        DUE.unknown("the node comes before the room", () -> x.piece(0, 2, 1, 1));
        x.unit(0, 0, 0, 1, 1);
        DUE.same("least of 150", x.way(0, 0, 1, 0), 86);
        // 851 to 860 metres take 86 seconds: pieces 149 down to 140.
        DUE.steps("least of 150", x, 140);
    }

    private static void treesAreAsAnew() {
        WayTimes x = Due.row(3);
        x.keep(3, 0, 0, 0);
        x.piece(0, 2, 500, 36);
        DUE.same("tree behind a new piece", x.kept(3, 2), 50);
        DUE.same("the new piece is in the trees already", x.limit(0, 0, 0), 0);
    }
}
