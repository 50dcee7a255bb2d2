import java.util.ArrayList;
import java.util.Arrays;

/** Seconds of travel over a net of pieces. DOC.md tells what each call of the face promises. */
public final class WayTimes {
    private static final int MOST_NODES = 200;
    private static final int MOST_PIECES = 150;
    private static final int MOST_UNITS = 12;
    private static final int MOST_ROWS = 3;
    private static final int MOST_WALKS = 6;
    private static final int MOST_TREES = 6;
    private static final int MOST_METRES = 60_000;
    private static final int MOST_SPEED = 200;
    private static final int MOST_LIMIT = 1_000;
    private static final int MOST_FACTOR = 20;
    private static final int LAST_HOUR = 23;
    private static final int FULL_PERCENT = 100;
    private static final int NONE = -1;
    private static final long NO_WAY = -1;

    private final Net net = new Net();
    private final Search search = new Search(net);
    private final Tree[] trees = new Tree[MOST_TREES];
    /** The pieces of the latest way, from its end back to its beginning. */
    private final int[] wayBack = new int[MOST_PIECES];
    private int waySteps;

    public WayTimes() {
        for (int slot = 0; slot < MOST_TREES; slot++) {
            trees[slot] = new Tree();
        }
    }

    public void net(int nodes) throws IllegalArgumentException, NegativeArraySizeException {
        if (nodes > MOST_NODES) {
            throw new IllegalArgumentException("more nodes than a net has");
        }
        if (nodes < 0) {
            throw new NegativeArraySizeException("nodes below 0");
        }
        net.begin(nodes);
        for (int slot = 0; slot < MOST_TREES; slot++) {
            trees[slot].drop();
        }
        waySteps = 0;
    }

    public int piece(int a, int b, int metres, int speed)
            throws IllegalArgumentException, IndexOutOfBoundsException, UnsupportedOperationException {
        needNode(a);
        needNode(b);
        if (a == b) {
            throw new IllegalArgumentException("the two nodes are one");
        }
        needWithin(metres, 1, MOST_METRES);
        needWithin(speed, 0, MOST_SPEED);
        if (net.pieces.size() >= MOST_PIECES) {
            throw new UnsupportedOperationException("no room for a piece");
        }
        net.addPiece(new Piece(a, b, metres, speed));
        redoTrees();
        return net.pieces.size() - 1;
    }

    public int limit(int piece, int weight, int height)
            throws IllegalArgumentException, IndexOutOfBoundsException {
        Piece changed = knownPiece(piece);
        needWithin(weight, 0, MOST_LIMIT);
        needWithin(height, 0, MOST_LIMIT);
        changed.weightLimit = weight;
        changed.heightLimit = height;
        return redoTrees();
    }

    public int slow(int piece, int from, int to, int percent)
            throws IllegalArgumentException, IndexOutOfBoundsException, UnsupportedOperationException {
        Piece changed = knownPiece(piece);
        needWithin(from, 0, LAST_HOUR);
        needWithin(to, from, LAST_HOUR);
        needWithin(percent, 1, FULL_PERCENT);
        if (changed.rows >= MOST_ROWS) {
            throw new UnsupportedOperationException("no room for an hour row");
        }
        changed.addRow(from, to, percent);
        return redoTrees();
    }

    public int close(int piece, boolean on) throws IllegalArgumentException, IllegalStateException {
        Piece changed = knownPiece(piece);
        if (changed.closed == on) {
            throw new IllegalStateException("the piece is so already");
        }
        changed.closed = on;
        return redoTrees();
    }

    public int speed(int piece, int speed) throws IllegalArgumentException, IndexOutOfBoundsException {
        Piece changed = knownPiece(piece);
        needWithin(speed, 0, MOST_SPEED);
        changed.speed = speed;
        return redoTrees();
    }

    public int unit(int node, int weight, int height, int p, int q)
            throws IllegalArgumentException, IndexOutOfBoundsException, UnsupportedOperationException {
        needNode(node);
        needWithin(weight, 0, MOST_LIMIT);
        needWithin(height, 0, MOST_LIMIT);
        needWithin(p, 1, MOST_FACTOR);
        needWithin(q, 1, MOST_FACTOR);
        if (net.units.size() >= MOST_UNITS) {
            throw new UnsupportedOperationException("no room for a unit");
        }
        net.units.add(new Unit(node, weight, height, p, q));
        return net.units.size() - 1;
    }

    public void stand(int unit, int node) throws IllegalArgumentException {
        Unit moved = knownUnit(unit);
        needNode(node);
        moved.node = node;
    }

    public long seconds(int unit, int piece, int t)
            throws IllegalArgumentException, IndexOutOfBoundsException, ArithmeticException {
        Unit goer = knownUnit(unit);
        Piece under = knownPiece(piece);
        needTime(t);
        if (under.speed == 0) {
            throw new ArithmeticException("the piece has no speed");
        }
        return under.secondsFor(goer, under.metres, t);
    }

    public long way(int unit, int a, int b, int t) throws IllegalArgumentException, IndexOutOfBoundsException {
        Unit goer = knownUnit(unit);
        needNode(a);
        needNode(b);
        needTime(t);
        search.spread(a, goer, t, 1);
        noteSteps(a, b);
        return search.leastTo(b);
    }

    public int step(int i) throws IndexOutOfBoundsException {
        if (i < 0) {
            throw new IndexOutOfBoundsException("a step below 0");
        }
        return i < waySteps ? wayBack[waySteps - 1 - i] : NONE;
    }

    public long walk(int unit, int a, int b, int t, int n)
            throws IllegalArgumentException, IndexOutOfBoundsException {
        Unit goer = knownUnit(unit);
        needNode(a);
        needNode(b);
        needTime(t);
        needWithin(n, 1, MOST_WALKS);
        search.spread(a, goer, t, n);
        return search.nthTo(b, n);
    }

    public long rest(int unit, int piece, int metres, int b, int t)
            throws IllegalArgumentException, IndexOutOfBoundsException {
        Unit goer = knownUnit(unit);
        Piece under = knownPiece(piece);
        needNode(b);
        needTime(t);
        needWithin(metres, 0, under.metres);
        if (!under.letsPass(goer)) {
            return NO_WAY;
        }
        // Pieces take the same both ways, so that one search from b tells the seconds from either end.
        search.spread(b, goer, t, 1);
        long overA = sum(under.secondsFor(goer, metres, t), search.leastTo(under.a));
        long overB = sum(under.secondsFor(goer, under.metres - metres, t), search.leastTo(under.b));
        return lesser(overA, overB);
    }

    public int nearest(int b, int t) throws IllegalArgumentException, IndexOutOfBoundsException {
        needNode(b);
        needTime(t);
        int best = NONE;
        long bestSeconds = NO_WAY;
        for (int i = 0; i < net.units.size(); i++) {
            Unit goer = net.units.get(i);
            search.spread(goer.node, goer, t, 1);
            long seconds = search.leastTo(b);
            if (seconds != NO_WAY && (best == NONE || seconds < bestSeconds)) {
                best = i;
                bestSeconds = seconds;
            }
        }
        return best;
    }

    public void keep(int slot, int node, int unit, int t)
            throws IllegalArgumentException, IndexOutOfBoundsException {
        if (slot < 0 || slot >= MOST_TREES) {
            throw new IllegalArgumentException("no such slot");
        }
        needNode(node);
        Unit goer = knownUnit(unit);
        needTime(t);
        trees[slot].plant(node, goer, t);
        trees[slot].redo(search);
    }

    public long kept(int slot, int node) throws IllegalArgumentException, ArrayIndexOutOfBoundsException {
        if (slot < 0 || slot >= MOST_TREES || trees[slot].unit == null) {
            throw new IllegalArgumentException("nothing is kept there");
        }
        if (node < 0 || node >= net.nodes) {
            throw new ArrayIndexOutOfBoundsException("no such node");
        }
        return trees[slot].seconds[node];
    }

    private void needNode(int node) {
        if (node < 0 || node >= net.nodes) {
            throw new IllegalArgumentException("no such node");
        }
    }

    private Piece knownPiece(int piece) {
        if (piece < 0 || piece >= net.pieces.size()) {
            throw new IllegalArgumentException("no such piece");
        }
        return net.pieces.get(piece);
    }

    private Unit knownUnit(int unit) {
        if (unit < 0 || unit >= net.units.size()) {
            throw new IllegalArgumentException("no such unit");
        }
        return net.units.get(unit);
    }

    private static void needTime(int t) {
        needWithin(t, 0, Integer.MAX_VALUE);
    }

    private static void needWithin(int value, int low, int high) {
        if (value < low || value > high) {
            throw new IndexOutOfBoundsException("outside of its range");
        }
    }

    private static long sum(long one, long other) {
        return one == NO_WAY || other == NO_WAY ? NO_WAY : one + other;
    }

    private static long lesser(long one, long other) {
        if (one == NO_WAY) {
            return other;
        }
        return other == NO_WAY ? one : Math.min(one, other);
    }

    /** How many kept trees tell other seconds than before. */
    private int redoTrees() {
        int others = 0;
        for (int slot = 0; slot < MOST_TREES; slot++) {
            if (trees[slot].redo(search)) {
                others++;
            }
        }
        return others;
    }

    /** The search has gone out from a: later changes of the net leave the steps as they were. */
    private void noteSteps(int a, int b) {
        waySteps = 0;
        int node = b;
        while (waySteps < MOST_PIECES && node != a) {
            int last = search.lastPieceTo(node);
            if (last == NONE) {
                return;
            }
            wayBack[waySteps] = last;
            waySteps++;
            node = net.pieces.get(last).otherEnd(node);
        }
    }

    private static final class Unit {
        final int weight;
        final int height;
        final int p;
        final int q;
        int node;

        Unit(int node, int weight, int height, int p, int q) {
            this.node = node;
            this.weight = weight;
            this.height = height;
            this.p = p;
            this.q = q;
        }
    }

    private static final class Piece {
        final int a;
        final int b;
        final int metres;
        int speed;
        int weightLimit;
        int heightLimit;
        boolean closed;
        int rows;
        private final int[] from = new int[MOST_ROWS];
        private final int[] to = new int[MOST_ROWS];
        private final int[] percent = new int[MOST_ROWS];

        Piece(int a, int b, int metres, int speed) {
            this.a = a;
            this.b = b;
            this.metres = metres;
            this.speed = speed;
        }

        int otherEnd(int node) {
            return node == a ? b : a;
        }

        void addRow(int fromHour, int toHour, int rowPercent) {
            if (rows >= MOST_ROWS) {
                return;
            }
            from[rows] = fromHour;
            to[rows] = toHour;
            percent[rows] = rowPercent;
            rows++;
        }

        boolean letsPass(Unit unit) {
            return !closed && speed > 0
                    && (weightLimit == 0 || weightLimit >= unit.weight)
                    && (heightLimit == 0 || heightLimit >= unit.height);
        }

        long secondsFor(Unit unit, int part, int t) {
            long divisor = (long) speed * percentAt(t / 3_600 % 24) * unit.p;
            if (divisor <= 0) {
                return NO_WAY;
            }
            long dividend = (long) part * 360 * unit.q;
            return (dividend + divisor - 1) / divisor;
        }

        private int percentAt(int hour) {
            for (int row = 0; row < rows; row++) {
                if (from[row] <= hour && hour <= to[row]) {
                    return percent[row];
                }
            }
            return FULL_PERCENT;
        }
    }

    /** Nodes, pieces and units. Half 2 i of the halves is piece i at its node a, half 2 i + 1 at its node b. */
    private static final class Net {
        final ArrayList<Piece> pieces = new ArrayList<>();
        final ArrayList<Unit> units = new ArrayList<>();
        /** Each node's newest half, and behind each half the one before it at the same node. */
        final int[] newestHalf = new int[MOST_NODES];
        final int[] olderHalf = new int[2 * MOST_PIECES];
        int nodes;

        Net() {
            Arrays.fill(newestHalf, NONE);
        }

        void begin(int newNodes) {
            nodes = newNodes;
            pieces.clear();
            units.clear();
            Arrays.fill(newestHalf, NONE);
        }

        void addPiece(Piece piece) {
            int half = 2 * pieces.size();
            pieces.add(piece);
            hang(half, piece.a);
            hang(half + 1, piece.b);
        }

        private void hang(int half, int node) {
            olderHalf[half] = newestHalf[node];
            newestHalf[node] = half;
        }
    }

    /** The least walks of a unit from one node to all nodes. */
    private static final class Search {
        final Net net;
        private final NodeQueue queue = new NodeQueue();
        /** What each piece takes; NO_WAY where the unit may not go. */
        private final long[] cost = new long[MOST_PIECES];
        /** For each node its least walks that are known, rising; the first ones of them are settled. */
        private final long[] walks = new long[MOST_NODES * MOST_WALKS];
        private final int[] known = new int[MOST_NODES];
        private final int[] settled = new int[MOST_NODES];
        private int wanted;

        Search(Net net) {
            this.net = net;
        }

        void spread(int start, Unit unit, int t, int wantedWalks) {
            wanted = wantedWalks;
            Arrays.fill(known, 0);
            Arrays.fill(settled, 0);
            pricePieces(unit, t);
            offer(start, 0);
            for (int left = net.nodes * wanted; left > 0; left--) {
                int node = queue.takeLeast();
                if (node == NONE) {
                    return;
                }
                settle(node);
            }
        }

        long leastTo(int node) {
            return nthTo(node, 1);
        }

        long nthTo(int node, int n) {
            return known[node] >= n ? walks[node * MOST_WALKS + n - 1] : NO_WAY;
        }

        /** The lowest piece over which the least seconds to a node come. */
        int lastPieceTo(int node) {
            int lowest = NONE;
            int half = net.newestHalf[node];
            for (int left = 2 * net.pieces.size(); left > 0 && half != NONE; left--) {
                // Halves hang newest first, so the last one that fits is the lowest.
                if (bringsLeast(half / 2, node)) {
                    lowest = half / 2;
                }
                half = net.olderHalf[half];
            }
            return lowest;
        }

        private boolean bringsLeast(int piece, int node) {
            long before = leastTo(net.pieces.get(piece).otherEnd(node));
            return before != NO_WAY && cost[piece] != NO_WAY && before + cost[piece] == leastTo(node);
        }

        private void pricePieces(Unit unit, int t) {
            for (int i = 0; i < net.pieces.size(); i++) {
                Piece piece = net.pieces.get(i);
                cost[i] = piece.letsPass(unit) ? piece.secondsFor(unit, piece.metres, t) : NO_WAY;
            }
        }

        /** Every piece takes at least a second, so nothing that is offered later is below what is settled. */
        private void settle(int node) {
            int base = node * MOST_WALKS;
            long seconds = walks[base + settled[node]];
            settled[node]++;
            if (settled[node] < known[node]) {
                queue.put(node, walks[base + settled[node]]);
            }
            int half = net.newestHalf[node];
            for (int left = 2 * net.pieces.size(); left > 0 && half != NONE; left--) {
                int piece = half / 2;
                if (cost[piece] != NO_WAY) {
                    offer(net.pieces.get(piece).otherEnd(node), seconds + cost[piece]);
                }
                half = net.olderHalf[half];
            }
        }

        private void offer(int node, long seconds) {
            int base = node * MOST_WALKS;
            if (known[node] >= wanted) {
                if (seconds >= walks[base + wanted - 1]) {
                    return;
                }
                known[node] = wanted - 1;
            }
            int at = known[node];
            while (at > settled[node] && walks[base + at - 1] > seconds) {
                walks[base + at] = walks[base + at - 1];
                at--;
            }
            walks[base + at] = seconds;
            known[node]++;
            if (at == settled[node]) {
                queue.put(node, seconds);
            }
        }
    }

    /** Nodes that wait, the one of the least seconds first: a heap that knows each node's place. */
    private static final class NodeQueue {
        private final int[] heap = new int[MOST_NODES];
        private final int[] place = new int[MOST_NODES];
        private final long[] seconds = new long[MOST_NODES];
        private int size;

        NodeQueue() {
            Arrays.fill(place, NONE);
        }

        /** A node that does not wait yet, or that waits with more seconds. */
        void put(int node, long nodeSeconds) {
            seconds[node] = nodeSeconds;
            int at = place[node];
            if (at == NONE) {
                at = size;
                size++;
            }
            while (at > 0 && seconds[heap[(at - 1) / 2]] > nodeSeconds) {
                int above = heap[(at - 1) / 2];
                heap[at] = above;
                place[above] = at;
                at = (at - 1) / 2;
            }
            heap[at] = node;
            place[node] = at;
        }

        int takeLeast() {
            if (size == 0) {
                return NONE;
            }
            int least = heap[0];
            place[least] = NONE;
            size--;
            if (size > 0) {
                sinkFromTop(heap[size]);
            }
            return least;
        }

        private void sinkFromTop(int node) {
            int at = 0;
            while (2 * at + 1 < size) {
                int below = 2 * at + 1;
                if (below + 1 < size && seconds[heap[below + 1]] < seconds[heap[below]]) {
                    below++;
                }
                if (seconds[heap[below]] >= seconds[node]) {
                    break;
                }
                heap[at] = heap[below];
                place[heap[at]] = at;
                at = below;
            }
            heap[at] = node;
            place[node] = at;
        }
    }

    /** A kept tree; without a unit nothing is kept in it. */
    private static final class Tree {
        final long[] seconds = new long[MOST_NODES];
        Unit unit;
        private int start;
        private int t;

        void drop() {
            unit = null;
        }

        void plant(int node, Unit goer, int time) {
            start = node;
            unit = goer;
            t = time;
        }

        /** Whether it tells other seconds than before. */
        boolean redo(Search search) {
            if (unit == null) {
                return false;
            }
            search.spread(start, unit, t, 1);
            boolean other = false;
            for (int node = 0; node < search.net.nodes; node++) {
                long now = search.leastTo(node);
                if (seconds[node] != now) {
                    seconds[node] = now;
                    other = true;
                }
            }
            return other;
        }
    }
}
