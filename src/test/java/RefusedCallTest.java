import java.util.function.Consumer;

/** Each refusal of the promises 2 to 17, one by one: behind it the object is as it was. */
public final class RefusedCallTest {
    private static final Due DUE = new Due();
    private static final int NOON = 12 * 3600;

    public static void main(String[] args) {
        String before = picture(state());
        refusedNets(before);
        refusedPieces(before);
        refusedChanges(before);
        refusedUnits(before);
        refusedQuestions(before);
        refusedTrees(before);
        DUE.end();
    }

    /** Limits, rows, a closed piece, a piece without speed, three units, two trees, and a latest way of two steps. */
    private static WayTimes state() {
        WayTimes x = new WayTimes();
        x.net(5);
        x.piece(0, 1, 1000, 36);
        x.piece(1, 2, 1000, 36);
        x.piece(2, 3, 700, 50);
        x.piece(0, 3, 900, 0);
        x.piece(0, 2, 2500, 36);
        x.limit(1, 10, 20);
        x.slow(0, 12, 12, 50);
        x.slow(0, 11, 13, 25);
        x.slow(0, 0, 5, 10);
        x.slow(1, 12, 12, 90);
        x.close(2, true);
        x.unit(0, 0, 0, 1, 1);
        x.unit(2, 11, 0, 3, 2);
        x.unit(1, 0, 20, 1, 2);
        x.keep(0, 0, 0, NOON);
        x.keep(4, 2, 1, 0);
        x.way(0, 0, 2, 20 * 3600);
        return x;
    }

    /** All that the object can be asked, and then how much room is left in it. */
    private static String picture(WayTimes x) {
        StringBuilder told = new StringBuilder();
        for (int i = 0; i < 4; i++) {
            told.append(" step ").append(x.step(i));
        }
        for (int slot = 0; slot < 6; slot++) {
            for (int node = 0; node < 5; node++) {
                told.append(slot == 0 || slot == 4 ? " kept " + x.kept(slot, node) : nothingKept(x, slot, node));
            }
        }
        for (int b = 0; b < 5; b++) {
            told.append(" nearest ").append(x.nearest(b, 0)).append(x.nearest(b, NOON));
        }
        for (int unit = 0; unit < 3; unit++) {
            for (int piece = 0; piece < 5; piece++) {
                told.append(piece == 3 ? "" : " seconds " + x.seconds(unit, piece, NOON) + " " + x.seconds(unit, piece, 0));
                told.append(" rest ").append(x.rest(unit, piece, 300, 2, NOON));
            }
            for (int b = 0; b < 5; b++) {
                told.append(" way ").append(x.way(unit, 0, b, NOON)).append(" by ").append(x.step(0)).append(x.step(1));
                told.append(" walk ").append(x.walk(unit, 0, b, 0, 6));
            }
        }
        return told + roomLeft(x);
    }

    private static String nothingKept(WayTimes x, int slot, int node) {
        DUE.unknown("an empty slot", () -> x.kept(slot, node));
        return " nothing";
    }

    private static String roomLeft(WayTimes x) {
        StringBuilder told = new StringBuilder();
        for (int piece = 0; piece < 5; piece++) {
            for (int row = piece == 0 ? 3 : piece == 1 ? 1 : 0; row < 3; row++) {
                told.append(" slow ").append(x.slow(piece, 12, 12, 1));
            }
            int full = piece;
            DUE.noRoom("slow of piece " + piece, () -> x.slow(full, 0, 0, 1));
        }
        told.append(" open ").append(x.close(2, false)).append(" close ").append(x.close(0, true));
        told.append(" speed ").append(x.speed(3, 1));
        told.append(" piece ").append(x.piece(3, 4, 1, 1));
        told.append(" unit ").append(x.unit(4, 0, 0, 1, 1));
        for (int node = 0; node < 5; node++) {
            told.append(" kept ").append(x.kept(0, node)).append(' ').append(x.kept(4, node));
        }
        DUE.unknown("node 5", () -> x.stand(0, 5));
        return told.toString();
    }

    private static void changesNothing(String before, Class<? extends RuntimeException> want, String call, Consumer<WayTimes> made) {
        WayTimes x = state();
        DUE.refused(want, call, () -> made.accept(x));
        String behind = picture(x);
        if (!behind.equals(before)) {
            DUE.tell(call + " left" + behind + " in the place of" + before);
        }
    }

    private static void unknown(String before, String call, Consumer<WayTimes> made) {
        changesNothing(before, IllegalArgumentException.class, call, made);
    }

    private static void outside(String before, String call, Consumer<WayTimes> made) {
        changesNothing(before, IndexOutOfBoundsException.class, call, made);
    }

    private static void refusedNets(String before) {
        unknown(before, "net(201)", x -> x.net(201));
        changesNothing(before, NegativeArraySizeException.class, "net(-1)", x -> x.net(-1));
    }

    private static void refusedPieces(String before) {
        unknown(before, "piece from no node", x -> x.piece(5, 1, 1, 200));
        unknown(before, "piece to no node", x -> x.piece(0, 5, 1, 200));
        unknown(before, "piece of one node", x -> x.piece(2, 2, 1, 200));
        outside(before, "piece of 0 metres", x -> x.piece(0, 2, 0, 200));
        outside(before, "piece of 60,001 metres", x -> x.piece(0, 2, 60_001, 200));
        outside(before, "piece of speed -1", x -> x.piece(0, 2, 1, -1));
        outside(before, "piece of speed 201", x -> x.piece(0, 2, 1, 201));
        WayTimes x = new WayTimes();
        x.net(3);
        for (int i = 0; i < 150; i++) {
            x.piece(0, 1, 1000, 36);
        }
        x.unit(0, 0, 0, 1, 1);
        x.keep(0, 0, 0, 0);
        DUE.noRoom("piece 150", () -> x.piece(0, 2, 1, 200));
        DUE.tree("behind piece 150", x, 0, 0, 100, -1);
        DUE.unknown("piece 150 is not there", () -> x.speed(150, 1));
    }

    private static void refusedChanges(String before) {
        unknown(before, "limit of no piece", x -> x.limit(5, 1, 1));
        outside(before, "limit of weight -1", x -> x.limit(0, -1, 1));
        outside(before, "limit of weight 1001", x -> x.limit(1, 1001, 0));
        outside(before, "limit of height -1", x -> x.limit(1, 9, -1));
        outside(before, "limit of height 1001", x -> x.limit(1, 9, 1001));
        unknown(before, "slow of no piece", x -> x.slow(5, 12, 12, 1));
        outside(before, "slow from -1", x -> x.slow(1, -1, 23, 1));
        outside(before, "slow to 24", x -> x.slow(1, 0, 24, 1));
        outside(before, "slow to an hour below", x -> x.slow(4, 12, 11, 1));
        outside(before, "slow of percent 0", x -> x.slow(4, 0, 23, 0));
        outside(before, "slow of percent 101", x -> x.slow(4, 0, 23, 101));
        changesNothing(before, UnsupportedOperationException.class, "a fourth row", x -> x.slow(0, 0, 23, 1));
        unknown(before, "close of no piece", x -> x.close(5, true));
        changesNothing(before, IllegalStateException.class, "close of a closed one", x -> x.close(2, true));
        changesNothing(before, IllegalStateException.class, "opening of an open one", x -> x.close(0, false));
        unknown(before, "speed of no piece", x -> x.speed(5, 1));
        outside(before, "speed -1", x -> x.speed(0, -1));
        outside(before, "speed 201", x -> x.speed(3, 201));
    }

    private static void refusedUnits(String before) {
        unknown(before, "unit at no node", x -> x.unit(5, 0, 0, 20, 1));
        outside(before, "unit of weight -1", x -> x.unit(2, -1, 0, 20, 1));
        outside(before, "unit of weight 1001", x -> x.unit(2, 1001, 0, 20, 1));
        outside(before, "unit of height -1", x -> x.unit(2, 0, -1, 20, 1));
        outside(before, "unit of height 1001", x -> x.unit(2, 0, 1001, 20, 1));
        outside(before, "unit of p 0", x -> x.unit(2, 0, 0, 0, 1));
        outside(before, "unit of p 21", x -> x.unit(2, 0, 0, 21, 1));
        outside(before, "unit of q 0", x -> x.unit(2, 0, 0, 20, 0));
        outside(before, "unit of q 21", x -> x.unit(2, 0, 0, 20, 21));
        unknown(before, "no unit stands", x -> x.stand(3, 2));
        unknown(before, "unit -1 stands", x -> x.stand(-1, 2));
        unknown(before, "it stands at no node", x -> x.stand(0, 5));
        unknown(before, "it stands at node -1", x -> x.stand(0, -1));
        WayTimes x = new WayTimes();
        x.net(2);
        for (int i = 0; i < 12; i++) {
            x.unit(0, 0, 0, 1, 1);
        }
        DUE.noRoom("unit 12", () -> x.unit(1, 0, 0, 1, 1));
        DUE.same("unit 12 is not at its node", x.nearest(1, 0), -1);
        DUE.unknown("unit 12 is not there", () -> x.stand(12, 0));
    }

    private static void refusedQuestions(String before) {
        unknown(before, "seconds of no unit", x -> x.seconds(3, 0, 0));
        unknown(before, "seconds of no piece", x -> x.seconds(0, 5, 0));
        outside(before, "seconds before 0", x -> x.seconds(0, 0, -1));
        changesNothing(before, ArithmeticException.class, "seconds at speed 0", x -> x.seconds(0, 3, 0));
        unknown(before, "way of no unit", x -> x.way(3, 1, 0, 0));
        unknown(before, "way from no node", x -> x.way(0, 5, 1, 0));
        unknown(before, "way to no node", x -> x.way(0, 1, 5, 0));
        outside(before, "way before 0", x -> x.way(0, 1, 0, -1));
        outside(before, "step -1", x -> x.step(-1));
        unknown(before, "walk of no unit", x -> x.walk(3, 1, 0, 0, 1));
        unknown(before, "walk from no node", x -> x.walk(0, 5, 1, 0, 1));
        unknown(before, "walk to no node", x -> x.walk(0, 1, 5, 0, 1));
        outside(before, "walk before 0", x -> x.walk(0, 1, 0, -1, 1));
        outside(before, "walk 0", x -> x.walk(0, 1, 0, 0, 0));
        outside(before, "walk 7", x -> x.walk(0, 1, 0, 0, 7));
        unknown(before, "rest of no unit", x -> x.rest(3, 0, 1, 0, 0));
        unknown(before, "rest on no piece", x -> x.rest(0, 5, 1, 0, 0));
        unknown(before, "rest to no node", x -> x.rest(0, 0, 1, 5, 0));
        outside(before, "rest before 0", x -> x.rest(0, 0, 1, 0, -1));
        outside(before, "rest before the piece", x -> x.rest(0, 0, -1, 0, 0));
        outside(before, "rest behind the piece", x -> x.rest(0, 0, 1001, 0, 0));
        unknown(before, "nearest of no node", x -> x.nearest(5, 0));
        outside(before, "nearest before 0", x -> x.nearest(0, -1));
    }

    private static void refusedTrees(String before) {
        unknown(before, "keep in slot -1", x -> x.keep(-1, 1, 2, 0));
        unknown(before, "keep in slot 6", x -> x.keep(6, 1, 2, 0));
        unknown(before, "keep of no node", x -> x.keep(0, 5, 2, 0));
        unknown(before, "keep of no unit", x -> x.keep(0, 1, 3, 0));
        outside(before, "keep before 0", x -> x.keep(0, 1, 2, -1));
        outside(before, "keep before 0 in an empty slot", x -> x.keep(1, 1, 2, -1));
        unknown(before, "kept of an empty slot", x -> x.kept(1, 0));
        changesNothing(before, ArrayIndexOutOfBoundsException.class, "kept of no node", x -> x.kept(0, 5));
        changesNothing(before, ArrayIndexOutOfBoundsException.class, "kept of node -1", x -> x.kept(4, -1));
    }
}
