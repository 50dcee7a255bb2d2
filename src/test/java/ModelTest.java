import java.util.ArrayList;
import java.util.Arrays;
import java.util.Collections;
import java.util.List;
import java.util.Random;

/** Long rows of calls, from fixed seeds, each answer held against a model that follows the document's words. */
public final class ModelTest {
    private static final Due DUE = new Due();
    private static final int CALLS = 512;

    public static void main(String[] args) {
        for (int seed = 0; seed < 400; seed++) {
            new Run(seed, 2 + seed % 6, 12).go();
        }
        for (int seed = 1000; seed < 1010; seed++) {
            new Run(seed, 40, 150).go();
        }
        for (int seed = 2000; seed < 2004; seed++) {
            new Run(seed, 200, 150).go();
        }
        DUE.end();
    }

    private interface Answer {
        long of();
    }

    /** What a call comes to: its answer, or the name of the exception. */
    private static String outcome(Answer call) {
        try {
            return Long.toString(call.of());
        } catch (RuntimeException e) {
            return "throws." + e.getClass().getSimpleName();
        }
    }

    private static final class Run {
        private final Random random;
        private final int seed;
        private final int nodes;
        private final int pieces;
        private final WayTimes x = new WayTimes();
        private Model model = new Model(0);
        private final List<String> told = new ArrayList<>();

        Run(int seed, int nodes, int pieces) {
            this.random = new Random(seed);
            this.seed = seed;
            this.nodes = nodes;
            this.pieces = pieces;
        }

        void go() {
            x.net(nodes);
            model = new Model(nodes);
            for (int i = 0; i < pieces * 2 / 3; i++) {
                addPiece();
            }
            addUnit();
            addUnit();
            for (int calls = pieces + 2; calls < CALLS; calls++) {
                oneCall(random.nextInt(100));
            }
        }

        /** Mostly 0 .. below - 1, now and then just outside. */
        private int some(int below) {
            int kind = random.nextInt(60);
            if (kind == 0) {
                return -1;
            }
            if (kind == 1) {
                return below;
            }
            return below <= 0 ? 0 : random.nextInt(below);
        }

        private int one(int... of) {
            return of[random.nextInt(of.length)];
        }

        private int time() {
            return random.nextInt(40) == 0 ? -1 : one(0, 3600, 7200, 7199, 24 * 3600, 24 * 3600 - 1, random.nextInt(200000));
        }

        private int node() {
            return some(model.nodes);
        }

        private void hold(String call, Answer got, Answer want) {
            String answer = outcome(got);
            String due = outcome(want);
            told.add(call + " " + answer);
            if (!answer.equals(due)) {
                DUE.tell("seed " + seed + " call " + told.size() + ": " + call + " answered " + answer + ", due is " + due);
            }
        }

        private void addPiece() {
            int a = node();
            int b = node();
            int metres = one(100, 200, 300, 1000, 1, 60000, random.nextInt(3000), 100);
            int speed = one(36, 36, 36, 18, 72, 0, 200, 201, random.nextInt(200));
            hold("piece " + a + " " + b + " " + metres + " " + speed,
                    () -> x.piece(a, b, metres, speed), () -> model.piece(a, b, metres, speed));
        }

        private void addUnit() {
            int node = node();
            int weight = one(0, 1, 2, 3, 1000, 1001);
            int height = one(0, 1, 2, 3, 1000, -1);
            int p = one(1, 1, 2, 3, 20, 0);
            int q = one(1, 1, 2, 3, 20, 21);
            hold("unit " + node, () -> x.unit(node, weight, height, p, q), () -> model.unit(node, weight, height, p, q));
        }

        private void oneCall(int kind) {
            if (kind < 4) {
                addPiece();
            } else if (kind < 7) {
                addUnit();
            } else if (kind < 10) {
                int unit = some(model.units.size());
                int node = node();
                hold("stand " + unit + " " + node, () -> {
                    x.stand(unit, node);
                    return 0;
                }, () -> model.stand(unit, node));
            } else if (kind < 35) {
                changeAPiece(kind);
            } else if (kind < 45) {
                int slot = some(6);
                int node = node();
                int unit = some(model.units.size());
                int t = time();
                hold("keep " + slot + " " + node + " " + unit + " " + t, () -> {
                    x.keep(slot, node, unit, t);
                    return 0;
                }, () -> model.keep(slot, node, unit, t));
            } else if (kind < 55) {
                int slot = some(6);
                int node = node();
                hold("kept " + slot + " " + node, () -> x.kept(slot, node), () -> model.kept(slot, node));
            } else {
                ask(kind);
            }
        }

        private void changeAPiece(int kind) {
            int piece = some(model.pieces.size());
            if (kind < 17) {
                int weight = one(0, 0, 1, 2, 3, 1000, 1001);
                int height = one(0, 0, 1, 2, 3, 1000, -1);
                hold("limit " + piece + " " + weight + " " + height,
                        () -> x.limit(piece, weight, height), () -> model.limit(piece, weight, height));
            } else if (kind < 22) {
                int from = one(0, 0, 1, 2, 23, random.nextInt(24), 24);
                int to = one(0, 1, 2, 23, 23, random.nextInt(24));
                int percent = one(1, 50, 50, 100, 33, 0, 101);
                hold("slow " + piece + " " + from + " " + to + " " + percent,
                        () -> x.slow(piece, from, to, percent), () -> model.slow(piece, from, to, percent));
            } else if (kind < 29) {
                boolean on = random.nextInt(3) == 0;
                hold("close " + piece + " " + on, () -> x.close(piece, on), () -> model.close(piece, on));
            } else {
                int speed = one(36, 36, 18, 72, 200, 0, 201, -1);
                hold("speed " + piece + " " + speed, () -> x.speed(piece, speed), () -> model.speed(piece, speed));
            }
        }

        private void ask(int kind) {
            int unit = some(model.units.size());
            int piece = some(model.pieces.size());
            int a = node();
            int b = node();
            int t = time();
            if (kind < 60) {
                hold("seconds " + unit + " " + piece + " " + t,
                        () -> x.seconds(unit, piece, t), () -> model.seconds(unit, piece, t));
            } else if (kind < 70) {
                hold("way " + unit + " " + a + " " + b + " " + t, () -> x.way(unit, a, b, t), () -> model.way(unit, a, b, t));
                askSteps();
            } else if (kind < 73) {
                int i = random.nextInt(8) - 1;
                hold("step " + i, () -> x.step(i), () -> model.step(i));
            } else if (kind < 84) {
                int n = random.nextInt(20) == 0 ? one(0, 7) : 1 + random.nextInt(6);
                hold("walk " + unit + " " + a + " " + b + " " + t + " " + n,
                        () -> x.walk(unit, a, b, t, n), () -> model.walk(unit, a, b, t, n));
            } else if (kind < 93) {
                int whole = piece >= 0 && piece < model.pieces.size() ? model.pieces.get(piece).metres : 10;
                int metres = one(0, whole, whole / 2, some(whole + 1));
                hold("rest " + unit + " " + piece + " " + metres + " " + b + " " + t,
                        () -> x.rest(unit, piece, metres, b, t), () -> model.rest(unit, piece, metres, b, t));
            } else {
                hold("nearest " + b + " " + t, () -> x.nearest(b, t), () -> model.nearest(b, t));
            }
        }

        private void askSteps() {
            for (int i = 0; i <= model.steps.size(); i++) {
                int at = i;
                hold("step " + at, () -> x.step(at), () -> model.step(at));
            }
        }
    }

    private static final class MPiece {
        int a;
        int b;
        int metres;
        int speed;
        int weight;
        int height;
        boolean closed;
        final List<int[]> rows = new ArrayList<>();
    }

    private static final class MUnit {
        int node;
        int weight;
        int height;
        int p;
        int q;
    }

    private static final class MTree {
        int node;
        int unit;
        int t;
    }

    /** Trees are never stored here: what they tell is found anew before and behind each change. */
    private static final class Model {
        final int nodes;
        final List<MPiece> pieces = new ArrayList<>();
        final List<MUnit> units = new ArrayList<>();
        final MTree[] trees = new MTree[6];
        List<Integer> steps = new ArrayList<>();

        Model(int nodes) {
            this.nodes = nodes;
        }

        private static void known(boolean is) {
            if (!is) {
                throw new IllegalArgumentException();
            }
        }

        private static void range(boolean is) {
            if (!is) {
                throw new IndexOutOfBoundsException();
            }
        }

        private static void room(boolean is) {
            if (!is) {
                throw new UnsupportedOperationException();
            }
        }

        private boolean node(int n) {
            return 0 <= n && n < nodes;
        }

        private boolean piece(int n) {
            return 0 <= n && n < pieces.size();
        }

        private boolean unit(int n) {
            return 0 <= n && n < units.size();
        }

        long piece(int a, int b, int metres, int speed) {
            known(node(a) && node(b) && a != b);
            range(1 <= metres && metres <= 60000 && 0 <= speed && speed <= 200);
            room(pieces.size() < 150);
            MPiece piece = new MPiece();
            piece.a = a;
            piece.b = b;
            piece.metres = metres;
            piece.speed = speed;
            pieces.add(piece);
            return pieces.size() - 1;
        }

        long unit(int node, int weight, int height, int p, int q) {
            known(node(node));
            range(0 <= weight && weight <= 1000 && 0 <= height && height <= 1000);
            range(1 <= p && p <= 20 && 1 <= q && q <= 20);
            room(units.size() < 12);
            MUnit unit = new MUnit();
            unit.node = node;
            unit.weight = weight;
            unit.height = height;
            unit.p = p;
            unit.q = q;
            units.add(unit);
            return units.size() - 1;
        }

        long stand(int unit, int node) {
            known(unit(unit) && node(node));
            units.get(unit).node = node;
            return 0;
        }

        private List<long[]> told() {
            List<long[]> told = new ArrayList<>();
            for (MTree tree : trees) {
                told.add(tree == null ? null : least(tree.node, tree.unit, tree.t));
            }
            return told;
        }

        private long others(List<long[]> before) {
            long others = 0;
            List<long[]> now = told();
            for (int i = 0; i < 6; i++) {
                others += Arrays.equals(before.get(i), now.get(i)) ? 0 : 1;
            }
            return others;
        }

        long limit(int piece, int weight, int height) {
            known(piece(piece));
            range(0 <= weight && weight <= 1000 && 0 <= height && height <= 1000);
            List<long[]> before = told();
            pieces.get(piece).weight = weight;
            pieces.get(piece).height = height;
            return others(before);
        }

        long slow(int piece, int from, int to, int percent) {
            known(piece(piece));
            range(0 <= from && from <= to && to <= 23 && 1 <= percent && percent <= 100);
            room(pieces.get(piece).rows.size() < 3);
            List<long[]> before = told();
            pieces.get(piece).rows.add(new int[] {from, to, percent});
            return others(before);
        }

        long close(int piece, boolean on) {
            known(piece(piece));
            if (pieces.get(piece).closed == on) {
                throw new IllegalStateException();
            }
            List<long[]> before = told();
            pieces.get(piece).closed = on;
            return others(before);
        }

        long speed(int piece, int speed) {
            known(piece(piece));
            range(0 <= speed && speed <= 200);
            List<long[]> before = told();
            pieces.get(piece).speed = speed;
            return others(before);
        }

        long keep(int slot, int node, int unit, int t) {
            known(0 <= slot && slot < 6 && node(node) && unit(unit));
            range(t >= 0);
            trees[slot] = new MTree();
            trees[slot].node = node;
            trees[slot].unit = unit;
            trees[slot].t = t;
            return 0;
        }

        long kept(int slot, int node) {
            known(0 <= slot && slot < 6 && trees[slot] != null);
            if (!node(node)) {
                throw new ArrayIndexOutOfBoundsException();
            }
            return least(trees[slot].node, trees[slot].unit, trees[slot].t)[node];
        }

        private boolean mayGo(MUnit unit, MPiece piece) {
            return !piece.closed && piece.speed > 0 && !(piece.weight != 0 && piece.weight < unit.weight)
                    && !(piece.height != 0 && piece.height < unit.height);
        }

        private long takes(MUnit unit, MPiece piece, int metres, int t) {
            long percent = 100;
            for (int i = piece.rows.size() - 1; i >= 0; i--) {
                int hour = (t / 3600) % 24;
                if (piece.rows.get(i)[0] <= hour && hour <= piece.rows.get(i)[1]) {
                    percent = piece.rows.get(i)[2];
                }
            }
            long over = piece.speed * percent * unit.p;
            long whole = metres * 360L * unit.q;
            return whole / over + (whole % over == 0 ? 0 : 1);
        }

        long seconds(int unit, int piece, int t) {
            known(unit(unit) && piece(piece));
            range(t >= 0);
            if (pieces.get(piece).speed == 0) {
                throw new ArithmeticException();
            }
            return takes(units.get(unit), pieces.get(piece), pieces.get(piece).metres, t);
        }

        /** Rounds over all pieces until nothing is less. */
        private long[] least(int from, int unit, int t) {
            long[] least = new long[nodes];
            Arrays.fill(least, -1);
            least[from] = 0;
            boolean again = true;
            while (again) {
                again = false;
                for (MPiece piece : pieces) {
                    if (mayGo(units.get(unit), piece)) {
                        long takes = takes(units.get(unit), piece, piece.metres, t);
                        again |= lower(least, piece.a, piece.b, takes) | lower(least, piece.b, piece.a, takes);
                    }
                }
            }
            return least;
        }

        private static boolean lower(long[] least, int from, int to, long takes) {
            if (least[from] >= 0 && (least[to] < 0 || least[from] + takes < least[to])) {
                least[to] = least[from] + takes;
                return true;
            }
            return false;
        }

        long way(int unit, int a, int b, int t) {
            known(unit(unit) && node(a) && node(b));
            range(t >= 0);
            long[] least = least(a, unit, t);
            steps = new ArrayList<>();
            for (int node = b; least[b] >= 0 && node != a; ) {
                int last = lastPiece(least, unit, node, t);
                steps.add(0, last);
                node = pieces.get(last).a == node ? pieces.get(last).b : pieces.get(last).a;
            }
            return least[b];
        }

        private int lastPiece(long[] least, int unit, int node, int t) {
            for (int i = 0; i < pieces.size(); i++) {
                MPiece piece = pieces.get(i);
                if (mayGo(units.get(unit), piece) && (piece.a == node || piece.b == node)) {
                    int other = piece.a == node ? piece.b : piece.a;
                    if (least[other] >= 0 && least[other] + takes(units.get(unit), piece, piece.metres, t) == least[node]) {
                        return i;
                    }
                }
            }
            throw new IllegalStateException("the model is wrong");
        }

        long step(int i) {
            range(i >= 0);
            return i < steps.size() ? steps.get(i) : -1;
        }

        /**
         * Walks of more and more pieces. One that is not among the six least to its node leads on to none that is
         * among the six least further on, so it is not followed.
         */
        long walk(int unit, int a, int b, int t, int n) {
            known(unit(unit) && node(a) && node(b));
            range(t >= 0 && 1 <= n && n <= 6);
            List<List<Long>> all = lists();
            List<List<Long>> now = lists();
            all.get(a).add(0L);
            now.get(a).add(0L);
            boolean more = true;
            while (more) {
                List<List<Long>> next = lists();
                more = false;
                for (MPiece piece : pieces) {
                    if (mayGo(units.get(unit), piece)) {
                        long takes = takes(units.get(unit), piece, piece.metres, t);
                        more |= follow(now.get(piece.a), takes, next.get(piece.b), all.get(piece.b));
                        more |= follow(now.get(piece.b), takes, next.get(piece.a), all.get(piece.a));
                    }
                }
                now = next;
            }
            return n <= all.get(b).size() ? all.get(b).get(n - 1) : -1;
        }

        private static boolean follow(List<Long> walks, long takes, List<Long> next, List<Long> all) {
            boolean more = false;
            for (long walk : walks) {
                if (all.size() < 6 || walk + takes < all.get(5)) {
                    next.add(walk + takes);
                    all.add(walk + takes);
                    Collections.sort(all);
                    while (all.size() > 6) {
                        all.remove(6);
                    }
                    more = true;
                }
            }
            return more;
        }

        private List<List<Long>> lists() {
            List<List<Long>> lists = new ArrayList<>();
            for (int i = 0; i < nodes; i++) {
                lists.add(new ArrayList<>());
            }
            return lists;
        }

        long rest(int unit, int piece, int metres, int b, int t) {
            known(unit(unit) && piece(piece) && node(b));
            MPiece on = pieces.get(piece);
            range(t >= 0 && 0 <= metres && metres <= on.metres);
            MUnit goer = units.get(unit);
            if (!mayGo(goer, on)) {
                return -1;
            }
            long overA = least(on.a, unit, t)[b];
            long overB = least(on.b, unit, t)[b];
            // The piece itself joins its two ends.
            if (overA < 0 || overB < 0) {
                return -1;
            }
            return Math.min(takes(goer, on, metres, t) + overA, takes(goer, on, on.metres - metres, t) + overB);
        }

        long nearest(int b, int t) {
            known(node(b));
            range(t >= 0);
            long best = -1;
            long bestSeconds = Long.MAX_VALUE;
            for (int i = 0; i < units.size(); i++) {
                long seconds = least(units.get(i).node, i, t)[b];
                if (seconds >= 0 && seconds < bestSeconds) {
                    best = i;
                    bestSeconds = seconds;
                }
            }
            return best;
        }
    }
}
