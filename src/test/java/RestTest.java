/** Promise 14: rest. */
public final class RestTest {
    private static final Due DUE = new Due();

    public static void main(String[] args) {
        overEitherEnd();
        shortestAndLongestPiece();
        metresAreFromTheFirstNode();
        partsAreRoundedUp();
        mayNotGo();
        mayNotGoOn();
        refusals();
        DUE.end();
    }

    private static void overEitherEnd() {
        WayTimes x = new WayTimes();
        x.net(4);
        x.piece(1, 0, 1000, 36);
        x.piece(1, 2, 500, 36);
        x.piece(0, 2, 200, 36);
        x.unit(3, 0, 0, 1, 1);
        DUE.same("to the first node", x.rest(0, 0, 300, 1, 0), 30);
        DUE.same("to the second node", x.rest(0, 0, 700, 0, 0), 30);
        DUE.same("over the second end", x.rest(0, 0, 700, 2, 0), 50);
        DUE.same("over the first end", x.rest(0, 0, 100, 2, 0), 60);
        DUE.same("round about to the second node", x.rest(0, 0, 100, 0, 0), 80);
        DUE.same("at the first node", x.rest(0, 0, 0, 1, 0), 0);
        DUE.same("at the second node", x.rest(0, 0, 1000, 0, 0), 0);
        DUE.same("nothing leads there", x.rest(0, 0, 500, 3, 0), -1);
        x.slow(0, 6, 6, 50);
        DUE.same("in hour 6", x.rest(0, 0, 700, 2, 6 * 3600), 80);
    }

    private static void shortestAndLongestPiece() {
        WayTimes x = new WayTimes();
        x.net(3);
        x.piece(0, 1, 1, 36);
        x.piece(1, 2, 60_000, 36);
        x.unit(0, 0, 0, 1, 1);
        DUE.same("1 metre, at its first node", x.rest(0, 0, 0, 1, 0), 1);
        DUE.same("1 metre, at its second node", x.rest(0, 0, 1, 1, 0), 0);
        DUE.outside("2 metres of 1", () -> x.rest(0, 0, 2, 1, 0));
        DUE.same("60,000 metres, at its first node", x.rest(0, 1, 0, 2, 0), 6000);
        DUE.same("60,000 metres, at its second node", x.rest(0, 1, 60_000, 2, 0), 0);
        DUE.same("60,000 metres, all the way back", x.rest(0, 1, 60_000, 0, 0), 6001);
        DUE.outside("60,001 metres of 60,000", () -> x.rest(0, 1, 60_001, 2, 0));
    }

    private static void metresAreFromTheFirstNode() {
        WayTimes x = new WayTimes();
        x.net(2);
        x.piece(0, 1, 1000, 36);
        x.piece(1, 0, 1000, 36);
        x.unit(0, 0, 0, 1, 1);
        DUE.same("0 is the first node", x.rest(0, 0, 300, 0, 0), 30);
        DUE.same("1 is the second node", x.rest(0, 0, 300, 1, 0), 70);
        DUE.same("1 is the first node", x.rest(0, 1, 300, 1, 0), 30);
        DUE.same("0 is the second node", x.rest(0, 1, 300, 0, 0), 70);
    }

    private static void mayNotGoOn() {
        WayTimes x = Due.row(5);
        x.unit(0, 10, 10, 1, 1);
        x.limit(0, 9, 0);
        x.limit(2, 0, 9);
        DUE.same("to its own first node", x.rest(1, 1, 400, 1, 0), 40);
        DUE.same("to its own second node", x.rest(1, 1, 400, 2, 0), 60);
        DUE.same("over the piece before", x.rest(1, 1, 400, 0, 0), -1);
        DUE.same("over the piece behind", x.rest(1, 1, 400, 3, 0), -1);
        DUE.same("another unit over the piece behind", x.rest(0, 1, 400, 3, 0), 160);
        DUE.same("on the piece on which it may not go", x.rest(1, 0, 400, 1, 0), -1);
        x.piece(1, 3, 5000, 36);
        DUE.same("round about", x.rest(1, 1, 400, 3, 0), 540);
    }

    private static void partsAreRoundedUp() {
        WayTimes x = new WayTimes();
        x.net(2);
        x.piece(0, 1, 1000, 50);
        x.unit(0, 0, 0, 3, 2);
        DUE.same("a metre", x.rest(0, 0, 1, 0, 0), 1);
        DUE.same("the other 999", x.rest(0, 0, 999, 0, 0), 48);
        DUE.same("the whole", x.rest(0, 0, 1000, 0, 0), 48);
        DUE.same("half", x.rest(0, 0, 500, 1, 0), 24);
    }

    private static void mayNotGo() {
        WayTimes x = new WayTimes();
        x.net(2);
        x.piece(0, 1, 1000, 36);
        x.piece(0, 1, 1000, 36);
        x.unit(0, 10, 0, 1, 1);
        x.limit(0, 9, 0);
        DUE.same("too heavy", x.rest(0, 0, 500, 1, 0), -1);
        DUE.same("too heavy, and at the end", x.rest(0, 0, 0, 0, 0), -1);
        x.limit(0, 10, 0);
        x.close(0, true);
        DUE.same("closed", x.rest(0, 0, 500, 1, 0), -1);
        DUE.same("closed, and at its first node", x.rest(0, 0, 0, 0, 0), -1);
        DUE.same("closed, and at its second node", x.rest(0, 0, 1000, 1, 0), -1);
        x.close(0, false);
        x.speed(0, 0);
        DUE.same("no speed", x.rest(0, 0, 500, 1, 0), -1);
        DUE.same("no speed, and at its first node", x.rest(0, 0, 0, 0, 0), -1);
        x.speed(0, 36);
        DUE.same("it may go", x.rest(0, 0, 500, 1, 0), 50);
    }

    private static void refusals() {
        WayTimes x = Due.row(3);
        DUE.unknown("unit -1", () -> x.rest(-1, 0, 0, 0, 0));
        DUE.unknown("unit 1 of 1", () -> x.rest(1, 0, 0, 0, 0));
        DUE.unknown("piece -1", () -> x.rest(0, -1, 0, 0, 0));
        DUE.unknown("piece 2 of 2", () -> x.rest(0, 2, 0, 0, 0));
        DUE.unknown("node -1", () -> x.rest(0, 0, 0, -1, 0));
        DUE.unknown("node 3 of 3", () -> x.rest(0, 0, -1, 3, -1));
        DUE.outside("t -1", () -> x.rest(0, 0, 0, 0, -1));
        DUE.outside("metres -1", () -> x.rest(0, 0, -1, 0, 0));
        DUE.outside("metres 1001 of 1000", () -> x.rest(0, 0, 1001, 0, 0));
        x.close(0, true);
        DUE.outside("metres of a piece that is closed", () -> x.rest(0, 0, 1001, 0, 0));
    }
}
