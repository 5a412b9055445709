/** Objects in states that many tests start from. */
final class Scenes {
    static final int OPEN = 0;
    static final int ALLOCATED = 1;
    static final int PICKING = 2;
    static final int PACKED = 3;
    static final int GONE = 4;
    static final int CLOSED = 5;
    static final int CANCELLED = 6;
    static final int MERGED = 7;

    private Scenes() {
    }

    /** Order 0 of customer 3, own number 50, rank 4, day 70; its line 0 wants 10 of good 2 and holds 6. */
    static OrderRows3 atPhase(int phase, int rules) {
        OrderRows3 x = new OrderRows3();
        x.order(3, 50, 4, 70);
        x.line(0, 2, 10, rules);
        x.hold(0, 6);
        if (phase == CANCELLED) {
            x.cancel(0);
        } else if (phase == MERGED) {
            x.order(3, 51, 4, 70);
            x.join(1, 0);
        } else {
            walk(x, phase);
        }
        return x;
    }

    /** The rules are PARTIAL and another good instead. */
    static OrderRows3 atPhase(int phase) {
        return atPhase(phase, 3);
    }

    private static void walk(OrderRows3 x, int phase) {
        for (int at = OPEN; at < phase; at++) {
            if (at == PICKING) {
                x.pick(0, 6);
            }
            x.goOn(0);
        }
    }

    /** CLOSED, with a line that is short and was backordered. */
    static OrderRows3 closedAndBackordered() {
        OrderRows3 x = atPhase(GONE, 7);
        x.backorder(0);
        x.goOn(0);
        return x;
    }

    /** Order 0 with line 0, that wants so many and holds none. */
    static OrderRows3 wants(int wanted, int rules) {
        OrderRows3 x = new OrderRows3();
        x.order(0, 1, 1, 0);
        x.line(0, 1, wanted, rules);
        return x;
    }

    /** Order 0 is GONE; of its line 0, for BACKORDER, so many are wanted and so many shipped. */
    static OrderRows3 goneShort(int wanted, int shipped) {
        OrderRows3 x = wants(wanted, 4);
        if (shipped > 0) {
            x.hold(0, shipped);
        }
        x.goOn(0);
        x.goOn(0);
        if (shipped > 0) {
            x.pick(0, shipped);
        }
        x.goOn(0);
        x.goOn(0);
        return x;
    }

    /** Order 0 is GONE, its line 0 short of all 10; the line had these rules since it was ALLOCATED. */
    static OrderRows3 goneWithRules(int rules) {
        OrderRows3 x = wants(10, 4);
        x.goOn(0);
        x.change(0, 2, rules);
        x.goOn(0);
        x.goOn(0);
        x.goOn(0);
        return x;
    }

    /** Order 0 is PICKING: 2 of the 6 pieces held for line 0 are picked, nothing is held for line 1. */
    static OrderRows3 pickingTwoLines() {
        OrderRows3 x = atPhase(OPEN, 7);
        x.line(0, 5, 4, 4);
        x.goOn(0);
        x.goOn(0);
        x.pick(0, 2);
        return x;
    }

    /** Order 0 with the lines 0, cancelled, and 1, live and for BACKORDER; it has gone on so far. */
    static OrderRows3 cancelledBesideLive(int phase) {
        OrderRows3 x = new OrderRows3();
        x.order(0, 1, 1, 0);
        x.line(0, 2, 10, 7);
        x.line(0, 2, 10, 4);
        x.hold(0, 3);
        x.cancel(0);
        for (int k = 0; k < phase; k++) {
            x.goOn(0);
        }
        return x;
    }

    /** As many orders without lines, of the customers 0 to 3. */
    static OrderRows3 orders(int count) {
        OrderRows3 x = new OrderRows3();
        for (int k = 0; k < count; k++) {
            x.order(k % 4, 100 + k, 1 + k % 9, k);
        }
        return x;
    }

    static OrderRows3 nineteenOrders() {
        return orders(19);
    }

    static OrderRows3 fullOfOrders() {
        return orders(20);
    }

    /** Eight orders of customer 0: 8 lines each in the first seven, the others in the last. */
    static OrderRows3 lines(int count) {
        OrderRows3 x = new OrderRows3();
        for (int k = 0; k < 8; k++) {
            x.order(0, 1 + k, 1, k);
        }
        for (int k = 0; k < count; k++) {
            x.line(k / 8, k % 16, 1 + k, 0);
        }
        return x;
    }

    static OrderRows3 fullOfLines() {
        return lines(60);
    }

    /** Twenty orders with the lines k, k + 20 and k + 40 each. */
    static OrderRows3 full() {
        OrderRows3 x = fullOfOrders();
        for (int k = 0; k < 60; k++) {
            x.line(k % 20, k % 16, 1 + k, 4);
        }
        return x;
    }

    /** Order 0 with as many lines. */
    static OrderRows3 linesOfOne(int count) {
        OrderRows3 x = new OrderRows3();
        x.order(0, 1, 1, 0);
        for (int k = 0; k < count; k++) {
            x.line(0, k, 5, 0);
        }
        return x;
    }

    static OrderRows3 eightLines() {
        return linesOfOne(8);
    }

    /** The scene, and this done to it. */
    static Check.Scene then(Check.Scene scene, Check.Call call) {
        return () -> {
            OrderRows3 x = scene.make();
            call.on(x);
            return x;
        };
    }

    static long join(OrderRows3 x, int order, int other) {
        x.join(order, other);
        return 0;
    }
}
