/** Promises 8 to 10: unit, stand, seconds. */
public final class UnitTest {
    private static final Due DUE = new Due();

    public static void main(String[] args) {
        units();
        edgesAreTaken();
        stands();
        standAtTheEdges();
        seconds();
        whetherItMayGoOrNot();
        secondsRefusals();
        DUE.end();
    }

    private static void units() {
        WayTimes x = new WayTimes();
        x.net(3);
        DUE.unknown("node -1", () -> x.unit(-1, 0, 0, 1, 1));
        DUE.unknown("node 3 of 3", () -> x.unit(3, 0, 0, 1, 1));
        DUE.outside("weight -1", () -> x.unit(0, -1, 0, 1, 1));
        DUE.outside("weight 1001", () -> x.unit(0, 1001, 0, 1, 1));
        DUE.outside("height -1", () -> x.unit(0, 0, -1, 1, 1));
        DUE.outside("height 1001", () -> x.unit(0, 0, 1001, 1, 1));
        DUE.outside("p 0", () -> x.unit(0, 0, 0, 0, 1));
        DUE.outside("p 21", () -> x.unit(0, 0, 0, 21, 1));
        DUE.outside("q 0", () -> x.unit(0, 0, 0, 1, 0));
        DUE.outside("q 21", () -> x.unit(0, 0, 0, 1, 21));
        DUE.unknown("the node comes before the range", () -> x.unit(3, -1, 0, 1, 1));
        for (int i = 0; i < 12; i++) {
            DUE.same("unit " + i, x.unit(i % 3, 1000, 1000, 20, 20), i);
        }
        DUE.noRoom("unit 12", () -> x.unit(0, 0, 0, 1, 1));
        DUE.outside("the range comes before the room", () -> x.unit(0, 0, 0, 0, 1));
        DUE.unknown("the node comes before the room", () -> x.unit(3, 0, 0, 1, 1));
    }

    private static void edgesAreTaken() {
        WayTimes x = new WayTimes();
        x.net(200);
        x.piece(0, 199, 1000, 36);
        DUE.same("the first node, all at the least", x.unit(0, 0, 0, 1, 1), 0);
        DUE.same("the last node, all at the most", x.unit(199, 1000, 1000, 20, 20), 1);
        DUE.same("p 1, q 20", x.unit(0, 1000, 0, 1, 20), 2);
        DUE.same("p 20, q 1", x.unit(0, 0, 1000, 20, 1), 3);
        DUE.same("seconds of 1 / 1", x.seconds(0, 0, 0), 100);
        DUE.same("seconds of 20 / 20", x.seconds(1, 0, 0), 100);
        DUE.same("seconds of 1 / 20", x.seconds(2, 0, 0), 2000);
        DUE.same("seconds of 20 / 1", x.seconds(3, 0, 0), 5);
        DUE.same("the one at the last node", x.nearest(199, 0), 1);
        DUE.same("the first one at the first node", x.nearest(0, 0), 0);
        DUE.unknown("unit 4 is not there yet", () -> x.seconds(4, 0, 0));
        DUE.same("unit 4", x.unit(0, 0, 0, 1, 1), 4);
        DUE.same("unit 4 is there", x.seconds(4, 0, 0), 100);
    }

    private static void standAtTheEdges() {
        WayTimes x = new WayTimes();
        x.net(200);
        for (int i = 0; i < 12; i++) {
            x.unit(100, 0, 0, 1, 1);
        }
        x.stand(11, 199);
        DUE.same("the last unit at the last node", x.nearest(199, 0), 11);
        x.stand(0, 0);
        DUE.same("the first unit at the first node", x.nearest(0, 0), 0);
        DUE.same("the others where they were", x.nearest(100, 0), 1);
        x.stand(11, 0);
        DUE.same("it has left the last node", x.nearest(199, 0), -1);
        DUE.unknown("unit 12 of 12", () -> x.stand(12, 0));
        DUE.unknown("node 200 of 200", () -> x.stand(11, 200));
    }

    private static void stands() {
        WayTimes x = Due.row(3);
        x.unit(1, 0, 0, 1, 1);
        x.keep(0, 0, 0, 0);
        DUE.same("nearest before", x.nearest(2, 0), 1);
        x.stand(0, 2);
        DUE.same("nearest behind it", x.nearest(2, 0), 0);
        x.stand(0, 2);
        DUE.same("to stand where it stands is fine", x.nearest(2, 0), 0);
        DUE.same("a tree is for its node, not for where the unit stands", x.kept(0, 2), 200);
        DUE.unknown("unit -1", () -> x.stand(-1, 0));
        DUE.unknown("unit 2 of 2", () -> x.stand(2, 0));
        DUE.unknown("node -1", () -> x.stand(0, -1));
        DUE.unknown("node 3 of 3", () -> x.stand(0, 3));
        DUE.same("a refused stand changes nothing", x.nearest(2, 0), 0);
    }

    private static void seconds() {
        WayTimes x = new WayTimes();
        x.net(2);
        x.piece(0, 1, 1000, 36);
        x.piece(0, 1, 60000, 1);
        x.piece(0, 1, 1, 200);
        x.unit(0, 0, 0, 1, 1);
        x.unit(0, 0, 0, 3, 2);
        x.unit(0, 0, 0, 1, 20);
        x.unit(0, 0, 0, 20, 1);
        DUE.same("a whole number", x.seconds(0, 0, 0), 100);
        DUE.same("rounded up", x.seconds(1, 0, 0), 67);
        DUE.same("q slows", x.seconds(2, 0, 0), 2000);
        DUE.same("p hastens", x.seconds(3, 0, 0), 5);
        DUE.same("never below 1", x.seconds(3, 2, 0), 1);
        x.slow(1, 0, 23, 1);
        DUE.same("the most", x.seconds(2, 1, 0), 432000000);
        x.slow(0, 0, 23, 30);
        DUE.same("percent, rounded once", x.seconds(1, 0, 0), 223);
        x.limit(0, 0, 0);
        x.close(0, true);
        DUE.same("closed all the same", x.seconds(0, 0, 0), 334);
    }

    private static void whetherItMayGoOrNot() {
        WayTimes x = Due.row(2);
        x.unit(0, 10, 10, 1, 1);
        x.limit(0, 9, 0);
        DUE.same("too heavy", x.seconds(1, 0, 0), 100);
        x.limit(0, 0, 9);
        DUE.same("too high", x.seconds(1, 0, 0), 100);
        x.close(0, true);
        DUE.same("closed, too", x.seconds(1, 0, 0), 100);
        x.speed(0, 0);
        DUE.refused(ArithmeticException.class, "but not at speed 0", () -> x.seconds(1, 0, 0));
        x.speed(0, 1);
        DUE.same("at speed 1", x.seconds(1, 0, 0), 3600);
    }

    private static void secondsRefusals() {
        WayTimes x = Due.row(3);
        x.speed(1, 0);
        DUE.unknown("unit -1", () -> x.seconds(-1, 0, 0));
        DUE.unknown("unit 1 of 1", () -> x.seconds(1, 0, 0));
        DUE.unknown("piece -1", () -> x.seconds(0, -1, 0));
        DUE.unknown("piece 2 of 2", () -> x.seconds(0, 2, -1));
        DUE.outside("t -1", () -> x.seconds(0, 0, -1));
        DUE.outside("t comes before the speed", () -> x.seconds(0, 1, -1));
        DUE.unknown("the unit comes before the speed", () -> x.seconds(1, 1, 0));
        DUE.refused(ArithmeticException.class, "speed 0", () -> x.seconds(0, 1, 0));
    }
}
