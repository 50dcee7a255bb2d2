/** Counts the answers that are not the ones that are due, and prints them. */
final class Due {
    interface Call {
        void make();
    }

    private static final String[] OF_THE_MACHINE = {"Index ", "length", "zero", "null", "class ", "-"};

    private int wrong;

    /** A written throw has words of its own; what the machine throws tells an index, a length or a divisor. */
    static boolean byTheMachine(Throwable thrown) {
        String message = thrown.getMessage();
        if (message == null) {
            return true;
        }
        for (String words : OF_THE_MACHINE) {
            if (message.contains(words)) {
                return true;
            }
        }
        return false;
    }

    void same(String call, long got, long want) {
        if (got != want) {
            tell(call + " answered " + got + ", due is " + want);
        }
    }

    /** The class must be the very one: a subclass of it is another exception than the document's. */
    void refused(Class<? extends RuntimeException> want, String call, Call made) {
        try {
            made.make();
        } catch (RuntimeException e) {
            if (e.getClass() != want) {
                tell(call + " threw " + e.getClass().getName() + ", due is " + want.getName());
            } else if (byTheMachine(e)) {
                tell(call + " let the machine throw " + e);
            }
            return;
        }
        tell(call + " did not throw, due is " + want.getName());
    }

    void unknown(String call, Call made) {
        refused(IllegalArgumentException.class, call, made);
    }

    void outside(String call, Call made) {
        refused(IndexOutOfBoundsException.class, call, made);
    }

    void noRoom(String call, Call made) {
        refused(UnsupportedOperationException.class, call, made);
    }

    void notInState(String call, Call made) {
        refused(IllegalStateException.class, call, made);
    }

    /** A kept tree tells these seconds, node by node. */
    void tree(String call, WayTimes x, int slot, long... want) {
        for (int node = 0; node < want.length; node++) {
            same(call + " kept(" + slot + ", " + node + ")", x.kept(slot, node), want[node]);
        }
    }

    /** The steps of the latest way are these and no more. */
    void steps(String call, WayTimes x, int... want) {
        for (int i = 0; i < want.length; i++) {
            same(call + " step(" + i + ")", x.step(i), want[i]);
        }
        same(call + " step(" + want.length + ")", x.step(want.length), -1);
        same(call + " step far behind", x.step(Integer.MAX_VALUE), -1);
    }

    void tell(String what) {
        wrong++;
        if (wrong <= 20) {
            System.out.println("  " + what);
        }
    }

    void end() {
        if (wrong > 0) {
            System.out.println("  wrong answers: " + wrong);
            System.exit(1);
        }
    }

    /** So many nodes in a row, a piece of 1,000 metres and speed 36 (100 seconds) between neighbours, a plain unit at 0. */
    static WayTimes row(int nodes) {
        WayTimes x = new WayTimes();
        x.net(nodes);
        for (int node = 0; node + 1 < nodes; node++) {
            x.piece(node, node + 1, 1000, 36);
        }
        x.unit(0, 0, 0, 1, 1);
        return x;
    }
}
