/** Objects in states that many tests start from. */
final class Scenes {
    static final int OPEN = 0;
    static final int ALLOCATED = 1;
    static final int PICKING = 2;
    static final int PACKED = 3;
    static final int GONE = 4;
    static final int CLOSED = 5;
    static final int CANCELLED = 6;
    static final int MERGED = 7;

    private Scenes() {
    }

    /** Order 0 of customer 3, own number 50, rank 4, day 70; its line 0 wants 10 of good 2 and holds 6. */
    static OrderRows3 atPhase(int phase, int rules) {
        OrderRows3 x = new OrderRows3();
        x.order(3, 50, 4, 70);
        x.line(0, 2, 10, rules);
        x.hold(0, 6);
        if (phase == CANCELLED) {
            x.cancel(0);
        } else if (phase == MERGED) {
            x.order(3, 51, 4, 70);
            x.join(1, 0);
        } else {
            walk(x, phase);
        }
        return x;
    }

    /** The rules are PARTIAL and another good instead. */
    static OrderRows3 atPhase(int phase) {
        return atPhase(phase, 3);
    }

    private static void walk(OrderRows3 x, int phase) {
        for (int at = OPEN; at < phase; at++) {
            if (at == PICKING) {
                x.pick(0, 6);
            }
            x.goOn(0);
        }
    }

    /** Twenty orders without lines, of the customers 0 to 3. */
    static OrderRows3 fullOfOrders() {
        OrderRows3 x = new OrderRows3();
        for (int k = 0; k < 20; k++) {
            x.order(k % 4, 100 + k, 1 + k % 9, k);
        }
        return x;
    }

    /** Eight orders of customer 0: 8 lines each in the first seven, 4 in the last. */
    static OrderRows3 fullOfLines() {
        OrderRows3 x = new OrderRows3();
        for (int k = 0; k < 8; k++) {
            x.order(0, 1 + k, 1, k);
        }
        for (int k = 0; k < 60; k++) {
            x.line(k / 8, k % 16, 1 + k, 0);
        }
        return x;
    }

    /** Order 0 with eight lines. */
    static OrderRows3 eightLines() {
        OrderRows3 x = new OrderRows3();
        x.order(0, 1, 1, 0);
        for (int k = 0; k < 8; k++) {
            x.line(0, k, 5, 0);
        }
        return x;
    }
}
