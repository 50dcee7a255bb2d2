/** Promises 1 and 2: a new object, net. */
public final class NetTest {
    private static final Due DUE = new Due();

    public static void main(String[] args) {
        newObjectHasNoNodes();
        sizes();
        emptyNet();
        allIsForgotten();
        allSixTreesAreForgotten();
        roomIsThereAgain();
        sameSizeForgetsToo();
        refusedNetChangesNothing();
        DUE.end();
    }

    private static void newObjectHasNoNodes() {
        hasNoNodes("a new object", new WayTimes());
    }

    private static void hasNoNodes(String what, WayTimes x) {
        DUE.unknown("piece in " + what, () -> x.piece(0, 1, 1, 1));
        DUE.unknown("unit in " + what, () -> x.unit(0, 0, 0, 1, 1));
        DUE.unknown("nearest in " + what, () -> x.nearest(0, 0));
        DUE.unknown("stand in " + what, () -> x.stand(0, 0));
        DUE.unknown("seconds in " + what, () -> x.seconds(0, 0, 0));
        DUE.unknown("way in " + what, () -> x.way(0, 0, 0, 0));
        DUE.unknown("walk in " + what, () -> x.walk(0, 0, 0, 0, 1));
        DUE.unknown("rest in " + what, () -> x.rest(0, 0, 0, 0, 0));
        DUE.unknown("keep in " + what, () -> x.keep(0, 0, 0, 0));
        DUE.unknown("kept in " + what, () -> x.kept(0, 0));
        DUE.unknown("limit in " + what, () -> x.limit(0, 0, 0));
        DUE.unknown("slow in " + what, () -> x.slow(0, 0, 0, 1));
        DUE.unknown("close in " + what, () -> x.close(0, true));
        DUE.unknown("speed in " + what, () -> x.speed(0, 0));
        DUE.steps(what, x);
    }

    private static void sizes() {
        WayTimes x = new WayTimes();
        x.net(0);
        DUE.unknown("unit in a net of 0", () -> x.unit(0, 0, 0, 1, 1));
        x.net(1);
        DUE.same("unit in a net of 1", x.unit(0, 0, 0, 1, 1), 0);
        DUE.unknown("unit at node 1 of 1", () -> x.unit(1, 0, 0, 1, 1));
        x.net(200);
        DUE.same("piece at the last node of 200", x.piece(198, 199, 1, 1), 0);
        DUE.unknown("piece at node 200 of 200", () -> x.piece(199, 200, 1, 1));
        DUE.unknown("net(201)", () -> x.net(201));
        DUE.unknown("net(greatest)", () -> x.net(Integer.MAX_VALUE));
        DUE.refused(NegativeArraySizeException.class, "net(-1)", () -> x.net(-1));
        DUE.refused(NegativeArraySizeException.class, "net(lowest)", () -> x.net(Integer.MIN_VALUE));
    }

    private static void emptyNet() {
        WayTimes x = new WayTimes();
        x.net(0);
        hasNoNodes("a net of 0", x);
        x.net(2);
        DUE.same("a net behind an empty one", x.piece(0, 1, 1, 1), 0);
        x.net(0);
        hasNoNodes("an empty net behind another one", x);
    }

    private static void allSixTreesAreForgotten() {
        WayTimes x = Due.row(3);
        for (int slot = 0; slot < 6; slot++) {
            x.keep(slot, 0, 0, 0);
        }
        x.net(3);
        for (int slot = 0; slot < 6; slot++) {
            int old = slot;
            DUE.unknown("old tree " + slot, () -> x.kept(old, 0));
        }
        x.piece(0, 1, 1000, 36);
        x.unit(0, 0, 0, 1, 1);
        DUE.same("no old tree tells others", x.speed(0, 72), 0);
        x.keep(0, 1, 0, 0);
        DUE.tree("a new tree", x, 0, 50, 0, -1);
        DUE.unknown("the others stay forgotten", () -> x.kept(5, 0));
    }

    private static void roomIsThereAgain() {
        WayTimes x = new WayTimes();
        for (int times = 0; times < 2; times++) {
            x.net(2);
            for (int i = 0; i < 150; i++) {
                DUE.same("piece " + i, x.piece(0, 1, 1000, 36), i);
            }
            for (int i = 0; i < 12; i++) {
                DUE.same("unit " + i, x.unit(0, 0, 0, 1, 1), i);
            }
            for (int row = 0; row < 3; row++) {
                DUE.same("row " + row, x.slow(0, 0, 23, 50), 0);
            }
            DUE.noRoom("piece 150", () -> x.piece(0, 1, 1000, 36));
            DUE.noRoom("unit 12", () -> x.unit(0, 0, 0, 1, 1));
            DUE.noRoom("row 3", () -> x.slow(0, 0, 23, 50));
        }
    }

    private static void sameSizeForgetsToo() {
        WayTimes x = new WayTimes();
        x.net(2);
        x.piece(0, 1, 1000, 36);
        x.close(0, true);
        x.net(2);
        DUE.same("a piece in the place of a closed one", x.piece(0, 1, 1000, 36), 0);
        DUE.notInState("is open", () -> x.close(0, false));
        x.unit(1, 0, 0, 1, 1);
        DUE.same("a unit of its own", x.nearest(0, 0), 0);
        x.net(2);
        DUE.same("no units", x.nearest(0, 0), -1);
        x.unit(0, 0, 0, 1, 1);
        DUE.same("no pieces", x.way(0, 0, 1, 0), -1);
    }

    private static void allIsForgotten() {
        WayTimes x = Due.row(4);
        x.slow(0, 0, 23, 50);
        x.limit(0, 5, 5);
        x.close(1, true);
        x.keep(2, 0, 0, 0);
        x.way(0, 0, 1, 0);
        DUE.same("step before net", x.step(0), 0);
        x.net(4);
        DUE.steps("after net", x);
        DUE.unknown("old tree", () -> x.kept(2, 0));
        DUE.unknown("old piece", () -> x.speed(0, 1));
        DUE.unknown("old unit", () -> x.stand(0, 1));
        DUE.same("pieces begin anew", x.piece(0, 1, 1000, 36), 0);
        DUE.same("units begin anew", x.unit(0, 9, 9, 1, 1), 0);
        DUE.same("a new piece has no old rows", x.seconds(0, 0, 0), 100);
        DUE.same("a new piece has no old limits", x.way(0, 0, 1, 0), 100);
        DUE.same("no old pieces lead on", x.way(0, 0, 2, 0), -1);
        DUE.same("no old tree is redone", x.close(0, true), 0);
        x.net(2);
        DUE.unknown("a smaller net", () -> x.unit(2, 0, 0, 1, 1));
    }

    private static void refusedNetChangesNothing() {
        WayTimes x = Due.row(3);
        x.keep(0, 0, 0, 0);
        x.way(0, 0, 2, 0);
        DUE.unknown("net(201)", () -> x.net(201));
        DUE.refused(NegativeArraySizeException.class, "net(-1)", () -> x.net(-1));
        DUE.steps("after refused net", x, 0, 1);
        DUE.same("tree after refused net", x.kept(0, 2), 200);
        DUE.same("way after refused net", x.way(0, 0, 2, 0), 200);
    }
}
