/** An object that holds the most of everything, and one that is used for all its 512 calls. */
public final class FullTest {
    private static final Due DUE = new Due();
    private static final int MOST_CALLS = 512;

    public static void main(String[] args) {
        mostOfEverything();
        starOf150Pieces();
        lastCallOfManyChanges();
        lastCallOfManyQuestions();
        lastCallOfManyNets();
        lastCallOfManyRefusals();
        DUE.end();
    }

    /** 200 nodes, a row of 150 pieces over the nodes 49 to 199, 12 units, 6 trees: 169 calls. */
    private static WayTimes full() {
        WayTimes x = new WayTimes();
        x.net(200);
        for (int i = 0; i < 150; i++) {
            x.piece(49 + i, 50 + i, 1000, 36);
        }
        for (int i = 0; i < 12; i++) {
            x.unit(49 + i, 1000, 1000, 1, 1 + i);
        }
        for (int slot = 0; slot < 6; slot++) {
            x.keep(slot, 199 - slot, 0, 0);
        }
        return x;
    }

    private static void mostOfEverything() {
        WayTimes x = full();
        for (int slot = 0; slot < 6; slot++) {
            DUE.same("tree " + slot + " to the first node of the row", x.kept(slot, 49), 100 * (150 - slot));
            DUE.same("tree " + slot + " to the last node", x.kept(slot, 199), 100 * slot);
            DUE.same("tree " + slot + " to a lone node", x.kept(slot, 0), -1);
        }
        DUE.same("way of unit 11", x.way(11, 49, 199, 0), 150 * 1200);
        DUE.same("its last step", x.step(149), 149);
        DUE.same("behind its last step", x.step(150), -1);
        DUE.same("walk 6 of unit 11", x.walk(11, 199, 49, 0, 6), 152 * 1200);
        DUE.same("rest of unit 11", x.rest(11, 0, 0, 199, 0), 150 * 1200);
        DUE.same("nearest to the last node", x.nearest(199, 0), 0);
        DUE.same("nearest to the node of the last unit", x.nearest(60, 0), 11);
        DUE.same("nearest to a lone node", x.nearest(48, 0), -1);
        DUE.same("six trees lose the first node", x.close(0, true), 6);
        DUE.same("nearest when unit 0 comes no more", x.nearest(199, 0), 1);
        DUE.noRoom("piece 150", () -> x.piece(0, 1, 1, 1));
        DUE.noRoom("unit 12", () -> x.unit(0, 0, 0, 1, 1));
        DUE.same("piece 149 has limits", x.limit(149, 999, 0), 6);
        DUE.same("piece 149 has a speed", x.speed(149, 1), 0);
        DUE.same("piece 149 has rows", x.slow(149, 0, 0, 1), 0);
        DUE.same("piece 149 closes", x.close(149, true), 0);
    }

    /** Leaves that are offered from the farthest to the nearest one, so that each is put before all that wait. */
    private static void starOf150Pieces() {
        WayTimes x = new WayTimes();
        x.net(151);
        for (int leaf = 1; leaf <= 150; leaf++) {
            x.piece(leaf, 0, 10 * leaf, 36);
        }
        x.unit(0, 0, 0, 1, 1);
        x.keep(0, 0, 0, 0);
        x.keep(1, 150, 0, 0);
        for (int leaf = 1; leaf <= 150; leaf++) {
            DUE.same("from the middle to leaf " + leaf, x.kept(0, leaf), leaf);
        }
        for (int leaf = 1; leaf < 150; leaf += 7) {
            DUE.same("from leaf 150 to leaf " + leaf, x.kept(1, leaf), 150 + leaf);
        }
        for (int n = 1; n <= 6; n++) {
            // Between them the walks go to and fro on leaf 1, from the fourth one on also on leaf 2.
            int[] more = {0, 2, 4, 4, 6, 6};
            DUE.same("walk " + n + " to leaf 150", x.walk(0, 0, 150, 0, n), 150 + more[n - 1]);
        }
        DUE.same("one leaf less", x.close(149, true), 2);
    }

    private static void lastCallOfManyChanges() {
        WayTimes x = full();
        for (int call = 169; call < MOST_CALLS - 1; call++) {
            DUE.same("change " + call, x.close(75, call % 2 == 1), 6);
        }
        DUE.same("the last call", x.kept(5, 49), 14_500);
    }

    private static void lastCallOfManyQuestions() {
        WayTimes x = full();
        for (int call = 169; call < MOST_CALLS - 3; call += 3) {
            DUE.same("nearest in call " + call, x.nearest(199, call), 0);
            DUE.same("walk in call " + call, x.walk(0, 49, 199, call, 6), 15_200);
            DUE.same("way in call " + call, x.way(1, 49, 199, call), 30_000);
        }
        DUE.same("the last call", x.step(149), 149);
    }

    private static void lastCallOfManyNets() {
        WayTimes x = new WayTimes();
        for (int call = 0; call < MOST_CALLS - 4; call += 4) {
            x.net(200);
            DUE.same("piece in call " + call, x.piece(198, 199, 1000, 36), 0);
            DUE.same("unit in call " + call, x.unit(198, 0, 0, 1, 1), 0);
            x.keep(5, 199, 0, call);
        }
        x.net(200);
        x.piece(198, 199, 1000, 36);
        x.unit(198, 0, 0, 1, 1);
        DUE.same("the last call", x.way(0, 198, 199, 0), 100);
    }

    private static void lastCallOfManyRefusals() {
        WayTimes x = full();
        for (int call = 169; call < MOST_CALLS - 1; call++) {
            DUE.noRoom("call " + call, () -> x.piece(0, 1, 1, 1));
        }
        DUE.same("the last call", x.way(0, 49, 199, 0), 15_000);
    }
}
