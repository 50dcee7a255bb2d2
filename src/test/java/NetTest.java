/** Promises 1 and 2: a new object, net. */
public final class NetTest {
    private static final Due DUE = new Due();

    public static void main(String[] args) {
        newObjectHasNoNodes();
        sizes();
        allIsForgotten();
        refusedNetChangesNothing();
        DUE.end();
    }

    private static void newObjectHasNoNodes() {
        WayTimes x = new WayTimes();
        DUE.unknown("piece on a new object", () -> x.piece(0, 1, 1, 1));
        DUE.unknown("unit on a new object", () -> x.unit(0, 0, 0, 1, 1));
        DUE.unknown("nearest on a new object", () -> x.nearest(0, 0));
        DUE.unknown("stand on a new object", () -> x.stand(0, 0));
        DUE.unknown("seconds on a new object", () -> x.seconds(0, 0, 0));
        DUE.unknown("way on a new object", () -> x.way(0, 0, 0, 0));
        DUE.unknown("walk on a new object", () -> x.walk(0, 0, 0, 0, 1));
        DUE.unknown("rest on a new object", () -> x.rest(0, 0, 0, 0, 0));
        DUE.unknown("keep on a new object", () -> x.keep(0, 0, 0, 0));
        DUE.unknown("kept on a new object", () -> x.kept(0, 0));
        DUE.unknown("limit on a new object", () -> x.limit(0, 0, 0));
        DUE.unknown("slow on a new object", () -> x.slow(0, 0, 0, 1));
        DUE.unknown("close on a new object", () -> x.close(0, true));
        DUE.unknown("speed on a new object", () -> x.speed(0, 0));
        DUE.steps("new object", x);
    }

    private static void sizes() {
        WayTimes x = new WayTimes();
        x.net(0);
        DUE.unknown("unit in a net of 0", () -> x.unit(0, 0, 0, 1, 1));
        x.net(1);
        DUE.same("unit in a net of 1", x.unit(0, 0, 0, 1, 1), 0);
        DUE.unknown("unit at node 1 of 1", () -> x.unit(1, 0, 0, 1, 1));
        x.net(200);
        DUE.same("piece at the last node of 200", x.piece(198, 199, 1, 1), 0);
        DUE.unknown("piece at node 200 of 200", () -> x.piece(199, 200, 1, 1));
        DUE.unknown("net(201)", () -> x.net(201));
        DUE.unknown("net(greatest)", () -> x.net(Integer.MAX_VALUE));
        DUE.refused(NegativeArraySizeException.class, "net(-1)", () -> x.net(-1));
        DUE.refused(NegativeArraySizeException.class, "net(lowest)", () -> x.net(Integer.MIN_VALUE));
    }

    private static void allIsForgotten() {
        WayTimes x = Due.row(4);
        x.slow(0, 0, 23, 50);
        x.limit(0, 5, 5);
        x.close(1, true);
        x.keep(2, 0, 0, 0);
        x.way(0, 0, 1, 0);
        DUE.same("step before net", x.step(0), 0);
        x.net(4);
        DUE.steps("after net", x);
        DUE.unknown("old tree", () -> x.kept(2, 0));
        DUE.unknown("old piece", () -> x.speed(0, 1));
        DUE.unknown("old unit", () -> x.stand(0, 1));
        DUE.same("pieces begin anew", x.piece(0, 1, 1000, 36), 0);
        DUE.same("units begin anew", x.unit(0, 9, 9, 1, 1), 0);
        DUE.same("a new piece has no old rows", x.seconds(0, 0, 0), 100);
        DUE.same("a new piece has no old limits", x.way(0, 0, 1, 0), 100);
        DUE.same("no old pieces lead on", x.way(0, 0, 2, 0), -1);
        DUE.same("no old tree is redone", x.close(0, true), 0);
        x.net(2);
        DUE.unknown("a smaller net", () -> x.unit(2, 0, 0, 1, 1));
    }

    private static void refusedNetChangesNothing() {
        WayTimes x = Due.row(3);
        x.keep(0, 0, 0, 0);
        x.way(0, 0, 2, 0);
        DUE.unknown("net(201)", () -> x.net(201));
        DUE.refused(NegativeArraySizeException.class, "net(-1)", () -> x.net(-1));
        DUE.steps("after refused net", x, 0, 1);
        DUE.same("tree after refused net", x.kept(0, 2), 200);
        DUE.same("way after refused net", x.way(0, 0, 2, 0), 200);
    }
}
