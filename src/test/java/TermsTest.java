/** The sentences under "Terms" that name a boundary case, each with a test of its own. */
public final class TermsTest {
    private static final Due DUE = new Due();
    private static final int DAY = 24 * 3600;

    public static void main(String[] args) {
        nodesAreZeroToNLessOne();
        piecesGoBothWays();
        overSpeedZeroNobodyGoes();
        overAClosedPieceNobodyGoes();
        limitsThatAreNotBelowLetPass();
        aLimitOfZeroIsNone();
        greatestAndLeastLimits();
        bothLimitsCount();
        hourIsModulo24();
        greatestTimeIsInHour3();
        rowHasBothItsHours();
        firstRowThatHasTheHourCounts();
        withoutARowItIs100();
        secondsAreRoundedUp();
        secondsAreRoundedOnce();
        ofZeroMetresZero();
        leastSecondsOfAPiece();
        secondsBeyondAnInt();
        aWalkOfNoPiecesTakesZero();
        aWalkGoesOverAPieceMoreThanOnce();
        allPiecesAreTakenAtTheBeginning();
        eachPieceIsRoundedForItself();
        lastPieceIsTheLowest();
        lastPieceMustBringTheLeast();
        lastPieceMustLetPass();
        sixTreesStandSideBySide();
        DUE.end();
    }

    /** A piece of 100 seconds between 0 and 1, a unit of weight 10 and height 20 at 0, and its tree. */
    private static WayTimes onePiece() {
        WayTimes x = new WayTimes();
        x.net(2);
        x.piece(0, 1, 1000, 36);
        x.unit(0, 10, 20, 1, 1);
        x.keep(0, 0, 0, 0);
        return x;
    }

    /** Whether the unit of onePiece() goes over the piece, asked in all the ways there are. */
    private static void goes(String when, WayTimes x, boolean may) {
        DUE.same(when + ", way", x.way(0, 0, 1, 0), may ? 100 : -1);
        DUE.same(when + ", step", x.step(0), may ? 0 : -1);
        DUE.same(when + ", way back", x.way(0, 1, 0, 0), may ? 100 : -1);
        DUE.same(when + ", walk 1", x.walk(0, 0, 1, 0, 1), may ? 100 : -1);
        DUE.same(when + ", walk 2", x.walk(0, 0, 1, 0, 2), may ? 300 : -1);
        DUE.same(when + ", rest", x.rest(0, 0, 400, 1, 0), may ? 60 : -1);
        DUE.same(when + ", rest back", x.rest(0, 0, 400, 0, 0), may ? 40 : -1);
        DUE.same(when + ", nearest", x.nearest(1, 0), may ? 0 : -1);
        DUE.same(when + ", kept", x.kept(0, 1), may ? 100 : -1);
    }

    private static void nodesAreZeroToNLessOne() {
        int[] sizes = {1, 2, 199, 200};
        for (int nodes : sizes) {
            WayTimes x = new WayTimes();
            x.net(nodes);
            DUE.same("a unit at the first of " + nodes, x.unit(0, 0, 0, 1, 1), 0);
            DUE.same("a unit at the last of " + nodes, x.unit(nodes - 1, 0, 0, 1, 1), 1);
            DUE.unknown("a unit behind the last of " + nodes, () -> x.unit(nodes, 0, 0, 1, 1));
            DUE.unknown("a unit before the first of " + nodes, () -> x.unit(-1, 0, 0, 1, 1));
        }
    }

    private static void piecesGoBothWays() {
        WayTimes x = onePiece();
        goes("a piece", x, true);
        DUE.same("a second one, told the other way round", x.piece(1, 0, 500, 36), 1);
        DUE.same("there", x.way(0, 0, 1, 0), 50);
        DUE.same("and back", x.way(0, 1, 0, 0), 50);
    }

    private static void overSpeedZeroNobodyGoes() {
        WayTimes x = onePiece();
        x.speed(0, 0);
        goes("speed 0", x, false);
        x.speed(0, 1);
        DUE.same("speed 1", x.way(0, 0, 1, 0), 3600);
        DUE.same("speed 1, rest", x.rest(0, 0, 0, 1, 0), 3600);
        WayTimes y = new WayTimes();
        y.net(2);
        y.piece(0, 1, 1000, 0);
        y.unit(0, 10, 20, 1, 1);
        y.keep(0, 0, 0, 0);
        goes("speed 0 from the first", y, false);
        y.speed(0, 36);
        goes("speed 36 behind 0", y, true);
    }

    private static void overAClosedPieceNobodyGoes() {
        WayTimes x = onePiece();
        x.close(0, true);
        goes("closed", x, false);
        x.close(0, false);
        goes("open again", x, true);
    }

    private static void limitsThatAreNotBelowLetPass() {
        WayTimes x = onePiece();
        x.limit(0, 9, 0);
        goes("weight limit 9 below 10", x, false);
        x.limit(0, 10, 0);
        goes("weight limit 10", x, true);
        x.limit(0, 11, 0);
        goes("weight limit 11", x, true);
        x.limit(0, 0, 19);
        goes("height limit 19 below 20", x, false);
        x.limit(0, 0, 20);
        goes("height limit 20", x, true);
        x.limit(0, 0, 21);
        goes("height limit 21", x, true);
    }

    private static void aLimitOfZeroIsNone() {
        WayTimes x = onePiece();
        x.limit(0, 1, 1);
        goes("limits 1", x, false);
        x.limit(0, 0, 0);
        goes("limits 0", x, true);
        x.limit(0, 0, 1);
        goes("no weight limit, height limit 1", x, false);
        x.limit(0, 1, 0);
        goes("weight limit 1, no height limit", x, false);
    }

    private static void greatestAndLeastLimits() {
        WayTimes x = new WayTimes();
        x.net(2);
        x.piece(0, 1, 1000, 36);
        x.unit(0, 1000, 1000, 1, 1);
        x.unit(0, 0, 0, 1, 1);
        x.limit(0, 1000, 1000);
        DUE.same("a unit of 1,000 at limits of 1,000", x.way(0, 0, 1, 0), 100);
        x.limit(0, 999, 1000);
        DUE.same("a unit of 1,000 at a weight limit of 999", x.way(0, 0, 1, 0), -1);
        x.limit(0, 1000, 999);
        DUE.same("a unit of 1,000 at a height limit of 999", x.way(0, 0, 1, 0), -1);
        x.limit(0, 1, 1);
        DUE.same("a unit of 0 at limits of 1", x.way(1, 0, 1, 0), 100);
    }

    private static void bothLimitsCount() {
        WayTimes x = onePiece();
        x.limit(0, 10, 20);
        goes("both at it", x, true);
        x.limit(0, 9, 20);
        goes("weight below", x, false);
        x.limit(0, 10, 19);
        goes("height below", x, false);
        x.limit(0, 9, 19);
        goes("both below", x, false);
    }

    private static void hourIsModulo24() {
        int[] days = {0, 1, 7, 24854};
        for (int hour = 0; hour < 24; hour++) {
            WayTimes x = onePiece();
            x.slow(0, hour, hour, 50);
            for (int day : days) {
                int begin = day * DAY + hour * 3600;
                String when = "hour " + hour + " of day " + day;
                DUE.same(when + ", first second", x.seconds(0, 0, begin), 200);
                DUE.same(when + ", last second", x.seconds(0, 0, begin + 3599), 200);
                DUE.same(when + ", a second behind", x.seconds(0, 0, begin + 3600), 100);
                if (begin > 0) {
                    DUE.same(when + ", a second before", x.seconds(0, 0, begin - 1), 100);
                }
            }
        }
    }

    private static void greatestTimeIsInHour3() {
        WayTimes x = onePiece();
        x.slow(0, 3, 3, 50);
        DUE.same("seconds", x.seconds(0, 0, Integer.MAX_VALUE), 200);
        DUE.same("way", x.way(0, 0, 1, Integer.MAX_VALUE), 200);
        DUE.same("walk", x.walk(0, 0, 1, Integer.MAX_VALUE, 2), 600);
        DUE.same("rest", x.rest(0, 0, 400, 1, Integer.MAX_VALUE), 120);
        DUE.same("nearest", x.nearest(1, Integer.MAX_VALUE), 0);
        x.keep(5, 1, 0, Integer.MAX_VALUE);
        DUE.same("kept", x.kept(5, 0), 200);
        DUE.same("a row of hour 0 is for the other tree alone", x.slow(0, 0, 2, 25), 1);
        DUE.same("kept as before", x.kept(5, 0), 200);
    }

    private static void rowHasBothItsHours() {
        WayTimes x = onePiece();
        x.slow(0, 5, 8, 50);
        for (int hour = 0; hour < 24; hour++) {
            DUE.same("5 to 8, hour " + hour, x.seconds(0, 0, hour * 3600), 5 <= hour && hour <= 8 ? 200 : 100);
        }
        WayTimes y = onePiece();
        y.slow(0, 0, 0, 50);
        y.slow(0, 23, 23, 25);
        DUE.same("hour 0", y.seconds(0, 0, 0), 200);
        DUE.same("hour 1", y.seconds(0, 0, 3600), 100);
        DUE.same("hour 22", y.seconds(0, 0, 23 * 3600 - 1), 100);
        DUE.same("hour 23", y.seconds(0, 0, 23 * 3600), 400);
        DUE.same("hour 23, its last second", y.seconds(0, 0, DAY - 1), 400);
        DUE.same("hour 0 of the next day", y.seconds(0, 0, DAY), 200);
        WayTimes z = onePiece();
        z.slow(0, 0, 23, 50);
        DUE.same("0 to 23, hour 0", z.seconds(0, 0, 0), 200);
        DUE.same("0 to 23, hour 23", z.seconds(0, 0, DAY - 1), 200);
    }

    private static void firstRowThatHasTheHourCounts() {
        WayTimes x = onePiece();
        x.slow(0, 6, 8, 50);
        x.slow(0, 7, 9, 25);
        x.slow(0, 8, 10, 10);
        DUE.same("hour 6, the first row", x.seconds(0, 0, 6 * 3600), 200);
        DUE.same("hour 7, the first of two", x.seconds(0, 0, 7 * 3600), 200);
        DUE.same("hour 8, the first of three", x.seconds(0, 0, 8 * 3600), 200);
        DUE.same("hour 9, the second of three", x.seconds(0, 0, 9 * 3600), 400);
        DUE.same("hour 10, the third", x.seconds(0, 0, 10 * 3600), 1000);
        WayTimes y = onePiece();
        y.slow(0, 0, 23, 100);
        y.slow(0, 0, 23, 1);
        DUE.same("a first row of 100 hides a second one", y.seconds(0, 0, 0), 100);
    }

    private static void withoutARowItIs100() {
        WayTimes x = onePiece();
        DUE.same("no row", x.seconds(0, 0, 0), 100);
        x.slow(0, 1, 1, 1);
        x.slow(0, 2, 23, 2);
        DUE.same("no row that has hour 0", x.seconds(0, 0, 0), 100);
        DUE.same("percent 1", x.seconds(0, 0, 3600), 10_000);
        DUE.same("percent 2", x.seconds(0, 0, 2 * 3600), 5_000);
        x.slow(0, 0, 0, 100);
        DUE.same("percent 100", x.seconds(0, 0, 0), 100);
    }

    private static void secondsAreRoundedUp() {
        // 10 metres a second.
        int[] metres = {1, 9, 10, 11, 19, 20, 21, 59_999, 60_000};
        int[] due = {1, 1, 1, 2, 2, 2, 3, 6_000, 6_000};
        WayTimes x = new WayTimes();
        x.net(2);
        x.unit(0, 0, 0, 1, 1);
        for (int i = 0; i < metres.length; i++) {
            x.piece(0, 1, metres[i], 36);
            DUE.same(metres[i] + " metres", x.seconds(0, i, 0), due[i]);
        }
        WayTimes y = new WayTimes();
        y.net(2);
        y.unit(0, 0, 0, 1, 1);
        y.piece(0, 1, 60_000, 36);
        for (int i = 0; i < metres.length; i++) {
            DUE.same(metres[i] + " metres back", y.rest(0, 0, metres[i], 0, 0), due[i]);
            DUE.same(metres[i] + " metres on", y.rest(0, 0, 60_000 - metres[i], 1, 0), due[i]);
        }
    }

    private static void secondsAreRoundedOnce() {
        WayTimes x = new WayTimes();
        x.net(2);
        x.piece(0, 1, 1, 7);
        x.piece(0, 1, 7, 7);
        x.piece(0, 1, 8, 7);
        x.unit(0, 0, 0, 3, 2);
        for (int piece = 0; piece < 3; piece++) {
            x.slow(piece, 0, 23, 3);
        }
        // 720 over 63 a metre.
        DUE.same("11 and 27 of 63", x.seconds(0, 0, 0), 12);
        DUE.same("80 and none", x.seconds(0, 1, 0), 80);
        DUE.same("91 and 27 of 63", x.seconds(0, 2, 0), 92);
    }

    private static void ofZeroMetresZero() {
        WayTimes x = onePiece();
        x.unit(0, 0, 0, 1, 20);
        x.slow(0, 0, 23, 1);
        for (int unit = 0; unit < 2; unit++) {
            DUE.same("at the first node", x.rest(unit, 0, 0, 0, 0), 0);
            DUE.same("at the second node", x.rest(unit, 0, 1000, 1, 0), 0);
        }
        DUE.same("a metre from the first node", x.rest(0, 0, 1, 0, 0), 10);
        DUE.same("a metre from the second node", x.rest(0, 0, 999, 1, 0), 10);
    }

    private static void leastSecondsOfAPiece() {
        WayTimes x = new WayTimes();
        x.net(2);
        x.piece(0, 1, 1, 200);
        x.unit(0, 0, 0, 20, 1);
        DUE.same("a metre at its fastest", x.seconds(0, 0, 0), 1);
        DUE.same("way", x.way(0, 0, 1, 0), 1);
        DUE.same("walk 6", x.walk(0, 0, 1, 0, 6), 11);
    }

    private static void secondsBeyondAnInt() {
        WayTimes x = new WayTimes();
        x.net(151);
        for (int i = 0; i < 150; i++) {
            x.piece(i, i + 1, 60_000, 1);
            x.slow(i, 0, 23, 1);
        }
        x.unit(0, 0, 0, 1, 20);
        x.keep(0, 0, 0, 0);
        DUE.same("a piece", x.seconds(0, 0, 0), 432_000_000L);
        DUE.same("way", x.way(0, 0, 150, 0), 64_800_000_000L);
        DUE.same("last step", x.step(149), 149);
        DUE.same("walk 1", x.walk(0, 0, 150, 0, 1), 64_800_000_000L);
        DUE.same("walk 6", x.walk(0, 0, 150, 0, 6), 65_664_000_000L);
        DUE.same("rest", x.rest(0, 0, 1, 150, 0), 64_799_992_800L);
        DUE.same("kept", x.kept(0, 150), 64_800_000_000L);
        x.unit(1, 0, 0, 1, 20);
        DUE.same("nearest", x.nearest(150, 0), 1);
    }

    private static void aWalkOfNoPiecesTakesZero() {
        WayTimes x = new WayTimes();
        x.net(1);
        x.unit(0, 0, 0, 1, 1);
        x.keep(0, 0, 0, 0);
        DUE.same("way", x.way(0, 0, 0, 0), 0);
        DUE.steps("way", x);
        DUE.same("walk 1", x.walk(0, 0, 0, 0, 1), 0);
        DUE.same("walk 2", x.walk(0, 0, 0, 0, 2), -1);
        DUE.same("nearest", x.nearest(0, 0), 0);
        DUE.same("kept", x.kept(0, 0), 0);
        WayTimes y = onePiece();
        y.close(0, true);
        DUE.same("way at a closed piece", y.way(0, 1, 1, 0), 0);
        DUE.same("nearest at a closed piece", y.nearest(0, 0), 0);
        DUE.same("kept at a closed piece", y.kept(0, 0), 0);
    }

    private static void aWalkGoesOverAPieceMoreThanOnce() {
        WayTimes x = onePiece();
        for (int n = 1; n <= 6; n++) {
            DUE.same("there, walk " + n, x.walk(0, 0, 1, 0, n), 200 * n - 100);
            DUE.same("back to itself, walk " + n, x.walk(0, 0, 0, 0, n), 200 * n - 200);
        }
    }

    private static void allPiecesAreTakenAtTheBeginning() {
        WayTimes x = Due.row(4);
        x.piece(3, 2, 500, 36);
        x.unit(3, 0, 0, 1, 5);
        x.slow(1, 1, 1, 50);
        x.keep(0, 0, 0, 3599);
        x.keep(1, 0, 0, 3600);
        DUE.same("way that begins in hour 0", x.way(0, 0, 2, 3599), 200);
        DUE.same("way that begins in hour 1", x.way(0, 0, 2, 3600), 300);
        DUE.same("way that begins in hour 1 and ends in hour 2", x.way(0, 0, 2, 7199), 300);
        DUE.same("walk that begins in hour 0", x.walk(0, 0, 2, 3599, 1), 200);
        DUE.same("walk that begins in hour 1", x.walk(0, 0, 2, 3600, 1), 300);
        DUE.same("rest that begins in hour 0", x.rest(0, 0, 0, 2, 3599), 200);
        DUE.same("rest that begins in hour 1", x.rest(0, 0, 0, 2, 3600), 300);
        DUE.same("nearest from hour 0", x.nearest(2, 3599), 0);
        DUE.same("nearest from hour 1", x.nearest(2, 3600), 1);
        DUE.same("tree of hour 0", x.kept(0, 2), 200);
        DUE.same("tree of hour 1", x.kept(1, 2), 300);
    }

    private static void eachPieceIsRoundedForItself() {
        WayTimes x = new WayTimes();
        x.net(3);
        x.piece(0, 1, 1, 36);
        x.piece(1, 2, 1, 36);
        x.unit(0, 0, 0, 1, 1);
        DUE.same("two pieces of a metre", x.way(0, 0, 2, 0), 2);
        x.piece(0, 2, 10, 36);
        DUE.same("one piece of ten", x.way(0, 0, 2, 0), 1);
        DUE.steps("one piece of ten", x, 2);
    }

    private static void lastPieceIsTheLowest() {
        WayTimes x = new WayTimes();
        x.net(3);
        x.piece(0, 2, 2000, 36);
        x.piece(0, 1, 1000, 36);
        x.piece(1, 2, 1000, 36);
        x.piece(2, 1, 1000, 36);
        x.unit(0, 0, 0, 1, 1);
        DUE.same("one piece or two", x.way(0, 0, 2, 0), 200);
        DUE.steps("the one piece is the lowest", x, 0);
        WayTimes y = new WayTimes();
        y.net(3);
        y.piece(1, 2, 1000, 36);
        y.piece(0, 2, 2000, 36);
        y.piece(0, 1, 1000, 36);
        y.piece(1, 0, 1000, 36);
        y.unit(0, 0, 0, 1, 1);
        DUE.same("two pieces or one", y.way(0, 0, 2, 0), 200);
        DUE.steps("the last of the two is the lowest", y, 2, 0);
        DUE.same("back", y.way(0, 2, 0, 0), 200);
        DUE.steps("back, the one piece is the lowest", y, 1);
    }

    private static void lastPieceMustBringTheLeast() {
        WayTimes x = new WayTimes();
        x.net(4);
        x.piece(1, 3, 1001, 36);
        x.piece(3, 2, 1000, 36);
        x.piece(0, 1, 1000, 36);
        x.piece(0, 2, 1000, 36);
        x.piece(0, 1, 990, 36);
        x.unit(0, 0, 0, 1, 1);
        // Over 1 it is 99 and 101, over 2 it is 100 and 100: both 200.
        DUE.same("alike", x.way(0, 0, 3, 0), 200);
        DUE.steps("by the lower last piece, and the lesser one before it", x, 4, 0);
        x.close(4, true);
        DUE.same("a second more over 1", x.way(0, 0, 3, 0), 200);
        DUE.steps("by the higher last piece", x, 3, 1);
    }

    private static void lastPieceMustLetPass() {
        WayTimes x = new WayTimes();
        x.net(2);
        for (int i = 0; i < 4; i++) {
            x.piece(0, 1, 1000, 36);
        }
        x.unit(0, 10, 10, 1, 1);
        x.close(0, true);
        x.limit(1, 9, 0);
        x.limit(2, 0, 9);
        DUE.same("the fourth one lets pass", x.way(0, 0, 1, 0), 100);
        DUE.steps("the fourth one", x, 3);
        x.limit(2, 0, 10);
        x.way(0, 0, 1, 0);
        DUE.steps("the third one", x, 2);
        x.limit(1, 10, 0);
        x.way(0, 0, 1, 0);
        DUE.steps("the second one", x, 1);
        x.close(0, false);
        x.way(0, 0, 1, 0);
        DUE.steps("the first one", x, 0);
        x.speed(0, 0);
        x.way(0, 0, 1, 0);
        DUE.steps("the first one has no speed", x, 1);
    }

    private static void sixTreesStandSideBySide() {
        WayTimes x = Due.row(3);
        x.unit(0, 0, 0, 1, 2);
        x.slow(0, 1, 1, 50);
        x.keep(0, 0, 0, 0);
        x.keep(1, 1, 0, 0);
        x.keep(2, 2, 0, 0);
        x.keep(3, 0, 1, 0);
        x.keep(4, 0, 0, 3600);
        x.keep(5, 2, 1, 3600);
        DUE.tree("first", x, 0, 0, 100, 200);
        DUE.tree("another node", x, 1, 100, 0, 100);
        DUE.tree("yet another node", x, 2, 200, 100, 0);
        DUE.tree("another unit", x, 3, 0, 200, 400);
        DUE.tree("another time", x, 4, 0, 200, 300);
        DUE.tree("all of it", x, 5, 600, 200, 0);
        DUE.same("all six are redone", x.close(1, true), 6);
        DUE.tree("first, behind it", x, 0, 0, 100, -1);
        DUE.tree("another node, behind it", x, 1, 100, 0, -1);
        DUE.tree("yet another node, behind it", x, 2, -1, -1, 0);
        DUE.tree("another unit, behind it", x, 3, 0, 200, -1);
        DUE.tree("another time, behind it", x, 4, 0, 200, -1);
        DUE.tree("all of it, behind it", x, 5, -1, -1, 0);
    }
}
