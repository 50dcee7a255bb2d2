/** Promise 15: nearest. */
public final class NearestTest {
    private static final Due DUE = new Due();

    public static void main(String[] args) {
        ordinary();
        ofTheSameTheLowest();
        oneThatMayGoNowhereIsWhereItStands();
        secondsOfItsOwn();
        refusals();
        DUE.end();
    }

    private static void ordinary() {
        WayTimes x = new WayTimes();
        x.net(5);
        x.piece(0, 1, 1000, 36);
        x.piece(1, 2, 1000, 36);
        x.piece(2, 3, 1000, 36);
        DUE.same("no units", x.nearest(0, 0), -1);
        x.unit(4, 0, 0, 1, 1);
        DUE.same("none that comes", x.nearest(0, 0), -1);
        DUE.same("one that is there", x.nearest(4, 0), 0);
        x.unit(3, 0, 0, 1, 1);
        x.unit(1, 0, 0, 1, 1);
        DUE.same("of the same the lowest", x.nearest(2, 0), 1);
        DUE.same("the nearer one", x.nearest(0, 0), 2);
        x.unit(0, 0, 0, 1, 1);
        DUE.same("the one that is there", x.nearest(0, 0), 3);
        x.close(0, true);
        DUE.same("it comes no more", x.nearest(1, 0), 2);
    }

    private static void ofTheSameTheLowest() {
        WayTimes x = Due.row(3);
        for (int i = 1; i < 12; i++) {
            x.unit(i % 2 == 0 ? 0 : 2, 0, 0, 1, 1);
        }
        DUE.same("twelve of the same", x.nearest(1, 0), 0);
        for (int i = 0; i < 11; i++) {
            x.stand(i, i % 2 == 0 ? 2 : 0);
        }
        DUE.same("still the lowest", x.nearest(1, 0), 0);
        x.stand(11, 1);
        DUE.same("the last of twelve is nearer", x.nearest(1, 0), 11);
        x.stand(5, 1);
        DUE.same("a lower one as near", x.nearest(1, 0), 5);
        x.stand(8, 1);
        DUE.same("a higher one as near", x.nearest(1, 0), 5);
    }

    private static void oneThatMayGoNowhereIsWhereItStands() {
        WayTimes x = Due.row(3);
        x.unit(2, 10, 0, 1, 1);
        x.limit(1, 9, 0);
        DUE.same("it is there", x.nearest(2, 0), 1);
        x.stand(0, 1);
        DUE.same("it does not come", x.nearest(1, 0), 0);
        x.close(0, true);
        DUE.same("none comes to 0", x.nearest(0, 0), -1);
        x.stand(1, 0);
        DUE.same("none but the one that is there", x.nearest(0, 0), 1);
    }

    private static void secondsOfItsOwn() {
        WayTimes x = new WayTimes();
        x.net(4);
        x.piece(0, 1, 1000, 36);
        x.piece(1, 2, 1000, 36);
        x.piece(2, 3, 1000, 36);
        x.unit(0, 0, 0, 1, 1);
        x.unit(3, 0, 0, 3, 1);
        x.unit(2, 9, 0, 1, 1);
        x.limit(1, 8, 0);
        DUE.same("the faster one", x.nearest(1, 0), 1);
        x.slow(2, 5, 5, 50);
        x.slow(1, 5, 5, 50);
        DUE.same("in hour 5", x.nearest(1, 5 * 3600), 0);
    }

    private static void refusals() {
        WayTimes x = Due.row(2);
        DUE.unknown("node -1", () -> x.nearest(-1, 0));
        DUE.unknown("node 2 of 2", () -> x.nearest(2, -1));
        DUE.outside("t -1", () -> x.nearest(0, -1));
        DUE.outside("t lowest", () -> x.nearest(0, Integer.MIN_VALUE));
        WayTimes y = new WayTimes();
        y.net(1);
        DUE.outside("t -1 without units", () -> y.nearest(0, -1));
        DUE.unknown("node 1 of 1 without units", () -> y.nearest(1, 0));
    }
}
