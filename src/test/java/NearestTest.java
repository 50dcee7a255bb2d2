/** Promise 15: nearest. */
public final class NearestTest {
    private static final Due DUE = new Due();

    public static void main(String[] args) {
        ordinary();
        secondsOfItsOwn();
        refusals();
        DUE.end();
    }

    private static void ordinary() {
        WayTimes x = new WayTimes();
        x.net(5);
        x.piece(0, 1, 1000, 36);
        x.piece(1, 2, 1000, 36);
        x.piece(2, 3, 1000, 36);
        DUE.same("no units", x.nearest(0, 0), -1);
        x.unit(4, 0, 0, 1, 1);
        DUE.same("none that comes", x.nearest(0, 0), -1);
        DUE.same("one that is there", x.nearest(4, 0), 0);
        x.unit(3, 0, 0, 1, 1);
        x.unit(1, 0, 0, 1, 1);
        DUE.same("of the same the lowest", x.nearest(2, 0), 1);
        DUE.same("the nearer one", x.nearest(0, 0), 2);
        x.unit(0, 0, 0, 1, 1);
        DUE.same("the one that is there", x.nearest(0, 0), 3);
        x.close(0, true);
        DUE.same("it comes no more", x.nearest(1, 0), 2);
    }

    private static void secondsOfItsOwn() {
        WayTimes x = new WayTimes();
        x.net(4);
        x.piece(0, 1, 1000, 36);
        x.piece(1, 2, 1000, 36);
        x.piece(2, 3, 1000, 36);
        x.unit(0, 0, 0, 1, 1);
        x.unit(3, 0, 0, 3, 1);
        x.unit(2, 9, 0, 1, 1);
        x.limit(1, 8, 0);
        DUE.same("the faster one", x.nearest(1, 0), 1);
        x.slow(2, 5, 5, 50);
        x.slow(1, 5, 5, 50);
        DUE.same("in hour 5", x.nearest(1, 5 * 3600), 0);
    }

    private static void refusals() {
        WayTimes x = Due.row(2);
        DUE.unknown("node -1", () -> x.nearest(-1, 0));
        DUE.unknown("node 2 of 2", () -> x.nearest(2, -1));
        DUE.outside("t -1", () -> x.nearest(0, -1));
    }
}
