import java.util.ArrayList;
import java.util.Arrays;
import java.util.List;

/**
 * Terms, "the first of these that is so", and the ranges of the promises 2 to 17: every edge of every argument with
 * every edge of every other one, in an object with room and in one without.
 */
public final class RefusalOrderTest {
    private static final Due DUE = new Due();
    private static final int LOW = Integer.MIN_VALUE;
    private static final int HIGH = Integer.MAX_VALUE;
    private static final int NODES = 3;
    private static final int ROOMY_PIECES = 2;
    private static final int ROOMY_UNITS = 2;
    private static final int ROOMY_METRES = 1000;

    private static final Class<IllegalArgumentException> UNKNOWN = IllegalArgumentException.class;
    private static final Class<IndexOutOfBoundsException> OUTSIDE = IndexOutOfBoundsException.class;
    private static final Class<IllegalStateException> STATE = IllegalStateException.class;
    private static final Class<UnsupportedOperationException> NO_ROOM = UnsupportedOperationException.class;

    private static final int[] NODE = {LOW, -1, 0, NODES - 1, NODES, HIGH};
    private static final int[] PIECE = {LOW, -1, 0, ROOMY_PIECES - 1, ROOMY_PIECES, HIGH};
    private static final int[] UNIT = {LOW, -1, 0, ROOMY_UNITS - 1, ROOMY_UNITS, HIGH};
    private static final int[] SLOT = {LOW, -1, 0, 1, 5, 6, HIGH};
    private static final int[] TIME = {LOW, -1, 0, HIGH};
    private static final int[] METRES = {LOW, -1, 0, 1, 60_000, 60_001, HIGH};
    private static final int[] SPEED = {LOW, -1, 0, 1, 200, 201, HIGH};
    private static final int[] LIMIT = {LOW, -1, 0, 1000, 1001, HIGH};
    private static final int[] FACTOR = {LOW, 0, 1, 20, 21, HIGH};

    public static void main(String[] args) {
        net();
        piece();
        limit();
        slow();
        close();
        speed();
        unit();
        stand();
        seconds();
        way();
        step();
        walk();
        rest();
        nearest();
        keep();
        kept();
        DUE.end();
    }

    /** Two pieces, the second one of speed 0 and closed; two units. */
    private static WayTimes roomy() {
        WayTimes x = new WayTimes();
        x.net(NODES);
        x.piece(0, 1, ROOMY_METRES, 36);
        x.piece(1, 2, ROOMY_METRES, 0);
        x.close(1, true);
        x.unit(0, 0, 0, 1, 1);
        x.unit(2, 1000, 1000, 20, 1);
        return x;
    }

    /** No room for a piece, for a unit, or for an hour row of pieces 0 and 1. */
    private static WayTimes full() {
        WayTimes x = roomy();
        for (int i = ROOMY_PIECES; i < 150; i++) {
            x.piece(0, 2, 1, 1);
        }
        for (int i = ROOMY_UNITS; i < 12; i++) {
            x.unit(0, 0, 0, 1, 1);
        }
        for (int row = 0; row < 3; row++) {
            x.slow(0, 0, 23, 100);
            x.slow(1, 0, 23, 100);
        }
        return x;
    }

    private static boolean in(int value, int low, int high) {
        return low <= value && value <= high;
    }

    private static boolean node(int value) {
        return in(value, 0, NODES - 1);
    }

    private static boolean piece(int value) {
        return in(value, 0, ROOMY_PIECES - 1);
    }

    private static boolean unit(int value) {
        return in(value, 0, ROOMY_UNITS - 1);
    }

    /** Each value of the first row with each value of the second one, and so on. */
    private static List<int[]> each(int[]... rows) {
        List<int[]> all = new ArrayList<>();
        all.add(new int[0]);
        for (int[] row : rows) {
            List<int[]> longer = new ArrayList<>();
            for (int[] one : all) {
                for (int value : row) {
                    int[] more = Arrays.copyOf(one, one.length + 1);
                    more[one.length] = value;
                    longer.add(more);
                }
            }
            all = longer;
        }
        return all;
    }

    private static Class<? extends RuntimeException> first(boolean known, boolean inRange) {
        return !known ? UNKNOWN : !inRange ? OUTSIDE : null;
    }

    private static Class<? extends RuntimeException> first(boolean known, boolean inRange, boolean room) {
        return !known ? UNKNOWN : !inRange ? OUTSIDE : !room ? NO_ROOM : null;
    }

    private static void due(Class<? extends RuntimeException> want, String name, int[] v, Due.Call made) {
        String call = name + Arrays.toString(v);
        if (want != null) {
            DUE.refused(want, call, made);
            return;
        }
        try {
            made.make();
        } catch (RuntimeException e) {
            DUE.tell(call + " threw " + e + ", due is nothing");
        }
    }

    private static void net() {
        for (int[] v : each(new int[] {LOW, -1, 0, 1, 200, 201, HIGH})) {
            WayTimes x = roomy();
            due(v[0] > 200 ? UNKNOWN : v[0] < 0 ? NegativeArraySizeException.class : null, "net", v, () -> x.net(v[0]));
        }
    }

    private static void piece() {
        for (int[] v : each(NODE, NODE, METRES, SPEED)) {
            boolean known = node(v[0]) && node(v[1]) && v[0] != v[1];
            boolean inRange = in(v[2], 1, 60_000) && in(v[3], 0, 200);
            WayTimes x = roomy();
            due(first(known, inRange), "piece", v, () -> x.piece(v[0], v[1], v[2], v[3]));
            WayTimes y = full();
            due(first(known, inRange, false), "full piece", v, () -> y.piece(v[0], v[1], v[2], v[3]));
        }
    }

    private static void limit() {
        for (int[] v : each(PIECE, LIMIT, LIMIT)) {
            WayTimes x = roomy();
            boolean inRange = in(v[1], 0, 1000) && in(v[2], 0, 1000);
            due(first(piece(v[0]), inRange), "limit", v, () -> x.limit(v[0], v[1], v[2]));
        }
    }

    private static void slow() {
        int[] hours = {LOW, -1, 0, 1, 22, 23, 24, HIGH};
        int[] percents = {LOW, -1, 0, 1, 100, 101, HIGH};
        for (int[] v : each(PIECE, hours, hours, percents)) {
            boolean inRange = in(v[1], 0, 23) && in(v[2], v[1], 23) && in(v[3], 1, 100);
            WayTimes x = roomy();
            due(first(piece(v[0]), inRange), "slow", v, () -> x.slow(v[0], v[1], v[2], v[3]));
            WayTimes y = full();
            // Piece 2 is there in the full one, and has room for rows.
            due(first(in(v[0], 0, 149), inRange, v[0] == 2), "full slow", v, () -> y.slow(v[0], v[1], v[2], v[3]));
        }
    }

    private static void close() {
        for (int[] v : each(PIECE)) {
            WayTimes x = roomy();
            due(!piece(v[0]) ? UNKNOWN : v[0] == 1 ? STATE : null, "close true", v, () -> x.close(v[0], true));
            WayTimes y = roomy();
            due(!piece(v[0]) ? UNKNOWN : v[0] == 0 ? STATE : null, "close false", v, () -> y.close(v[0], false));
        }
    }

    private static void speed() {
        for (int[] v : each(PIECE, SPEED)) {
            WayTimes x = roomy();
            due(first(piece(v[0]), in(v[1], 0, 200)), "speed", v, () -> x.speed(v[0], v[1]));
        }
    }

    private static void unit() {
        for (int[] v : each(NODE, LIMIT, LIMIT, FACTOR, FACTOR)) {
            boolean inRange = in(v[1], 0, 1000) && in(v[2], 0, 1000) && in(v[3], 1, 20) && in(v[4], 1, 20);
            WayTimes x = roomy();
            due(first(node(v[0]), inRange), "unit", v, () -> x.unit(v[0], v[1], v[2], v[3], v[4]));
            WayTimes y = full();
            due(first(node(v[0]), inRange, false), "full unit", v, () -> y.unit(v[0], v[1], v[2], v[3], v[4]));
        }
    }

    private static void stand() {
        for (int[] v : each(UNIT, NODE)) {
            WayTimes x = roomy();
            due(first(unit(v[0]) && node(v[1]), true), "stand", v, () -> x.stand(v[0], v[1]));
        }
    }

    private static void seconds() {
        for (int[] v : each(UNIT, PIECE, TIME)) {
            WayTimes x = roomy();
            Class<? extends RuntimeException> want = first(unit(v[0]) && piece(v[1]), v[2] >= 0);
            // Piece 1 has speed 0.
            due(want == null && v[1] == 1 ? ArithmeticException.class : want, "seconds", v,
                    () -> x.seconds(v[0], v[1], v[2]));
        }
    }

    private static void way() {
        for (int[] v : each(UNIT, NODE, NODE, TIME)) {
            WayTimes x = roomy();
            due(first(unit(v[0]) && node(v[1]) && node(v[2]), v[3] >= 0), "way", v, () -> x.way(v[0], v[1], v[2], v[3]));
        }
    }

    private static void step() {
        for (int[] v : each(new int[] {LOW, -2, -1, 0, 1, 149, 150, HIGH})) {
            WayTimes x = roomy();
            due(first(true, v[0] >= 0), "step before a way", v, () -> x.step(v[0]));
            x.way(0, 0, 1, 0);
            due(first(true, v[0] >= 0), "step of a way", v, () -> x.step(v[0]));
        }
    }

    private static void walk() {
        for (int[] v : each(UNIT, NODE, NODE, TIME, new int[] {LOW, -1, 0, 1, 6, 7, HIGH})) {
            WayTimes x = roomy();
            boolean known = unit(v[0]) && node(v[1]) && node(v[2]);
            due(first(known, v[3] >= 0 && in(v[4], 1, 6)), "walk", v, () -> x.walk(v[0], v[1], v[2], v[3], v[4]));
        }
    }

    private static void rest() {
        int[] metres = {LOW, -1, 0, ROOMY_METRES, ROOMY_METRES + 1, 60_000, HIGH};
        for (int[] v : each(UNIT, PIECE, metres, NODE, TIME)) {
            WayTimes x = roomy();
            boolean known = unit(v[0]) && piece(v[1]) && node(v[3]);
            due(first(known, in(v[2], 0, ROOMY_METRES) && v[4] >= 0), "rest", v,
                    () -> x.rest(v[0], v[1], v[2], v[3], v[4]));
        }
    }

    private static void nearest() {
        for (int[] v : each(NODE, TIME)) {
            WayTimes x = roomy();
            due(first(node(v[0]), v[1] >= 0), "nearest", v, () -> x.nearest(v[0], v[1]));
        }
    }

    private static void keep() {
        for (int[] v : each(SLOT, NODE, UNIT, TIME)) {
            WayTimes x = roomy();
            boolean known = in(v[0], 0, 5) && node(v[1]) && unit(v[2]);
            due(first(known, v[3] >= 0), "keep", v, () -> x.keep(v[0], v[1], v[2], v[3]));
        }
    }

    private static void kept() {
        for (int[] v : each(SLOT, NODE)) {
            WayTimes x = roomy();
            x.keep(1, 0, 0, 0);
            due(v[0] != 1 ? UNKNOWN : !node(v[1]) ? ArrayIndexOutOfBoundsException.class : null, "kept", v,
                    () -> x.kept(v[0], v[1]));
        }
    }
}
