public final class Promise12BackorderTest {
    private static final Check check = new Check("promise 12");

    public static void main(String[] args) {
        backorders();
        withoutGoodInstead();
        backorderOfBackorder();
        refusals();
        room();
        check.end();
    }

    private static OrderRows3 gone() {
        return Scenes.atPhase(Scenes.GONE, 7);
    }

    private static void backorders() {
        OrderRows3 x = gone();
        int version = x.told(0, 7);
        check.due("backorder(0)", 1, x.backorder(0));
        int[] due = {Scenes.OPEN, 3, 0, 4, 70, 0, 1, 2, -1, 0};
        for (int what = 0; what < due.length; what++) {
            check.due("told(1, " + what + ")", due[what], x.told(1, what));
        }
        check.due("its line", 1, x.lineOf(1, 0));
        check.due("its line packed", 2 | 7 << 9 | 4 << 12 | 1L << 52 | 1L << 54, x.packed(1));
        check.due("the old line was backordered", 1, Packed.backordered(x.packed(0)));
        check.due("what is short stays told", 4, x.told(0, 9));
        check.due("the old order's version", version, x.told(0, 7));
        check.due("the old order's phase", Scenes.GONE, x.told(0, 0));
        check.due("count(0)", 2, x.count(0));
        check.due("count(1)", 2, x.count(1));
        check.due("the new order waits", 1, x.ready(0));
    }

    private static void withoutGoodInstead() {
        OrderRows3 x = new OrderRows3();
        x.order(0, 1, 1, 0);
        x.line(0, 3, 5, 6);
        x.change(0, 1, 8);
        for (int k = 0; k < 4; k++) {
            x.goOn(0);
        }
        x.backorder(0);
        check.due("the same good", 3, Packed.good(x.packed(1)));
        check.due("no good instead", 0, Packed.insteadAndOne(x.packed(1)));
        check.due("all of it was short", 5, Packed.wanted(x.packed(1)));
    }

    private static void backorderOfBackorder() {
        OrderRows3 x = gone();
        x.backorder(0);
        x.hold(1, 1);
        x.goOn(1);
        x.goOn(1);
        x.pick(1, 1);
        x.goOn(1);
        x.goOn(1);
        check.due("backorder(1)", 2, x.backorder(1));
        check.due("wants what is short still", 3, Packed.wanted(x.packed(2)));
        check.due("two backorders of one customer", 0, x.told(2, 2));
        check.due("count(3)", 7, x.count(3));
    }

    private static OrderRows3 backordered() {
        OrderRows3 x = gone();
        x.backorder(0);
        return x;
    }

    private static OrderRows3 closedWithShort() {
        OrderRows3 x = backordered();
        x.goOn(0);
        return x;
    }

    /** Line 0 is cancelled, line 1 not short, line 2 short but not for BACKORDER. */
    private static OrderRows3 nothingToBackorder() {
        OrderRows3 x = new OrderRows3();
        x.order(0, 1, 1, 0);
        x.line(0, 3, 5, 4);
        x.line(0, 4, 5, 4);
        x.line(0, 5, 5, 3);
        x.hold(1, 5);
        x.hold(2, 4);
        x.goOn(0);
        x.goOn(0);
        x.cancel(0);
        x.pick(1, 5);
        x.pick(2, 4);
        x.goOn(0);
        x.goOn(0);
        return x;
    }

    private static void refusals() {
        check.refuses("backorder(-1)", Check.NO_SUCH, Promise12BackorderTest::gone, x -> x.backorder(-1));
        check.refuses("backorder(1)", Check.NO_SUCH, Promise12BackorderTest::gone, x -> x.backorder(1));
        for (int phase = Scenes.OPEN; phase <= Scenes.PACKED; phase++) {
            int at = phase;
            check.refuses("backorder in phase " + at, Check.STATE,
                    () -> Scenes.atPhase(at, 7), x -> x.backorder(0));
        }
        check.refuses("CANCELLED", Check.STATE, () -> Scenes.atPhase(Scenes.CANCELLED, 7), x -> x.backorder(0));
        check.refuses("CLOSED", Check.STATE, Promise12BackorderTest::closedWithShort, x -> x.backorder(0));
        check.refuses("once more", Check.STATE, Promise12BackorderTest::backordered, x -> x.backorder(0));
        for (int line = 0; line < 3; line++) {
            int at = line;
            check.refuses("line " + at, Check.STATE, Promise12BackorderTest::nothingToBackorder,
                    x -> x.backorder(at));
        }
    }

    private static OrderRows3 fullOfOrders(boolean backordered) {
        OrderRows3 x = gone();
        if (backordered) {
            x.backorder(0);
        }
        int orders = x.count(0);
        for (int k = orders; k < 20; k++) {
            x.order(k % 3, k, 1, k);
        }
        return x;
    }

    private static OrderRows3 fullOfLines(int lines) {
        OrderRows3 x = gone();
        for (int k = 1; k < lines; k++) {
            if (k % 8 == 1) {
                x.order(0, k, 1, 0);
            }
            x.line(1 + (k - 1) / 8, 1, 1, 0);
        }
        return x;
    }

    private static OrderRows3 nineteenOrders() {
        OrderRows3 x = gone();
        for (int k = 1; k < 19; k++) {
            x.order(k % 3, k, 1, k);
        }
        return x;
    }

    private static void room() {
        check.refuses("no room for an order", Check.NO_ROOM, () -> fullOfOrders(false), x -> x.backorder(0));
        check.refuses("no room, and backordered before", Check.STATE, () -> fullOfOrders(true), x -> x.backorder(0));
        check.refuses("no room for a line", Check.NO_ROOM, () -> fullOfLines(60), x -> x.backorder(0));
        check.due("room for the last line", 59, fullOfLines(59).backorder(0));
        OrderRows3 x = nineteenOrders();
        check.due("room for the last order", 1, x.backorder(0));
        check.due("the last order", 19, Packed.order(x.packed(1)));
    }
}
