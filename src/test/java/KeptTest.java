/** Promises 16 and 17: keep, kept. */
public final class KeptTest {
    private static final Due DUE = new Due();

    public static void main(String[] args) {
        slots();
        whatWasThereGoes();
        aTreeOfOneNode();
        aTreeOf200Nodes();
        asAnewBehindEachChange();
        keepRefusals();
        keptRefusals();
        DUE.end();
    }

    private static void slots() {
        WayTimes x = Due.row(4);
        x.unit(0, 0, 0, 2, 1);
        x.keep(0, 0, 0, 0);
        x.keep(5, 3, 1, 0);
        DUE.same("slot 0 to its own node", x.kept(0, 0), 0);
        DUE.same("slot 0", x.kept(0, 3), 300);
        DUE.same("slot 5", x.kept(5, 1), 100);
        x.keep(0, 2, 1, 0);
        DUE.same("what was there goes", x.kept(0, 3), 50);
        DUE.same("and the other stays", x.kept(5, 0), 150);
        x.close(1, true);
        DUE.same("no way", x.kept(0, 0), -1);
    }

    private static void whatWasThereGoes() {
        WayTimes x = Due.row(3);
        x.unit(0, 10, 0, 1, 2);
        x.slow(0, 1, 1, 50);
        x.keep(5, 0, 0, 0);
        DUE.tree("first", x, 5, 0, 100, 200);
        x.keep(5, 1, 0, 0);
        DUE.tree("another node", x, 5, 100, 0, 100);
        x.keep(5, 1, 1, 0);
        DUE.tree("another unit", x, 5, 200, 0, 200);
        x.keep(5, 1, 1, 3600);
        DUE.tree("another time", x, 5, 400, 0, 200);
        x.keep(5, 1, 1, 3600);
        DUE.tree("the same again", x, 5, 400, 0, 200);
        DUE.same("what went is not redone", x.slow(0, 0, 0, 1), 0);
        DUE.same("what is there is", x.limit(1, 9, 0), 1);
        DUE.tree("redone", x, 5, 400, 0, -1);
    }

    private static void aTreeOfOneNode() {
        WayTimes x = new WayTimes();
        x.net(1);
        x.unit(0, 0, 0, 1, 1);
        x.keep(0, 0, 0, 0);
        DUE.tree("its own node", x, 0, 0);
        DUE.refused(ArrayIndexOutOfBoundsException.class, "node 1 of 1", () -> x.kept(0, 1));
    }

    private static void aTreeOf200Nodes() {
        WayTimes x = new WayTimes();
        x.net(200);
        x.unit(0, 0, 0, 1, 1);
        x.keep(0, 199, 0, 0);
        DUE.same("its own node", x.kept(0, 199), 0);
        DUE.same("the first node", x.kept(0, 0), -1);
        x.piece(199, 0, 1000, 36);
        DUE.same("the first node behind a piece", x.kept(0, 0), 100);
        DUE.same("the node before the last", x.kept(0, 198), -1);
        DUE.refused(ArrayIndexOutOfBoundsException.class, "node 200 of 200", () -> x.kept(0, 200));
    }

    private static void asAnewBehindEachChange() {
        WayTimes x = Due.row(3);
        x.unit(0, 7, 7, 1, 1);
        x.keep(1, 0, 1, 2 * 3600);
        x.slow(0, 2, 2, 50);
        DUE.same("behind slow", x.kept(1, 2), 300);
        x.speed(1, 18);
        DUE.same("behind speed", x.kept(1, 2), 400);
        x.limit(1, 0, 6);
        DUE.same("behind limit", x.kept(1, 2), -1);
        x.piece(2, 0, 1000, 36);
        DUE.same("behind piece", x.kept(1, 2), 100);
        x.close(2, true);
        DUE.same("behind close", x.kept(1, 2), -1);
        x.stand(1, 2);
        DUE.same("behind stand", x.kept(1, 1), 200);
        x.way(0, 2, 0, 0);
        x.walk(0, 2, 0, 0, 6);
        x.rest(0, 0, 1, 2, 0);
        x.nearest(2, 0);
        DUE.same("behind questions", x.kept(1, 1), 200);
        DUE.same("behind questions, no way", x.kept(1, 2), -1);
    }

    private static void keepRefusals() {
        WayTimes x = Due.row(2);
        x.keep(0, 0, 0, 0);
        DUE.unknown("slot -1", () -> x.keep(-1, 0, 0, 0));
        DUE.unknown("slot 6", () -> x.keep(6, 0, 0, 0));
        DUE.unknown("node -1", () -> x.keep(0, -1, 0, 0));
        DUE.unknown("node 2 of 2", () -> x.keep(0, 2, 0, 0));
        DUE.unknown("unit -1", () -> x.keep(0, 1, -1, 0));
        DUE.unknown("unit 1 of 1", () -> x.keep(0, 1, 1, -1));
        DUE.outside("t -1", () -> x.keep(0, 1, 0, -1));
        DUE.unknown("the slot comes before t", () -> x.keep(6, 0, 0, -1));
        DUE.unknown("the node comes before t", () -> x.keep(0, 2, 0, -1));
        DUE.same("refused, what was there stays", x.kept(0, 1), 100);
        DUE.outside("t -1 in an empty slot", () -> x.keep(1, 1, 0, -1));
        DUE.unknown("refused, nothing is kept", () -> x.kept(1, 0));
    }

    private static void keptRefusals() {
        WayTimes x = Due.row(2);
        x.keep(2, 0, 0, 0);
        DUE.unknown("an empty slot", () -> x.kept(3, 0));
        DUE.unknown("slot -1", () -> x.kept(-1, 0));
        DUE.unknown("slot 6", () -> x.kept(6, 0));
        DUE.unknown("the slot comes before the node", () -> x.kept(3, 2));
        DUE.refused(ArrayIndexOutOfBoundsException.class, "node -1", () -> x.kept(2, -1));
        DUE.refused(ArrayIndexOutOfBoundsException.class, "node 2 of 2", () -> x.kept(2, 2));
        DUE.refused(ArrayIndexOutOfBoundsException.class, "node 199 of 2", () -> x.kept(2, 199));
        DUE.refused(ArrayIndexOutOfBoundsException.class, "the greatest node", () -> x.kept(2, Integer.MAX_VALUE));
        DUE.refused(ArrayIndexOutOfBoundsException.class, "the lowest node", () -> x.kept(2, Integer.MIN_VALUE));
        DUE.unknown("the slot comes before a node below 0", () -> x.kept(6, -1));
    }
}
