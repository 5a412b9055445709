public final class Promise17CountTest {
    private static final Check check = new Check("promise 17");

    public static void main(String[] args) {
        phases();
        severalOrders();
        fullCounts();
        greatestCounts();
        otherWhats();
        check.end();
    }

    private static void counts(String what, OrderRows3 x, int... due) {
        for (int k = 0; k < due.length; k++) {
            check.due(what + ": count(" + k + ")", due[k], x.count(k));
        }
    }

    private static void phases() {
        for (int phase = Scenes.OPEN; phase <= Scenes.PACKED; phase++) {
            counts("phase " + phase, Scenes.atPhase(phase), 1, 1, 6, 0);
        }
        counts("GONE", Scenes.atPhase(Scenes.GONE), 1, 1, 0, 6);
        counts("CLOSED", Scenes.atPhase(Scenes.CLOSED), 1, 1, 0, 6);
        counts("CANCELLED", Scenes.atPhase(Scenes.CANCELLED), 1, 1, 0, 0);
        counts("MERGED", Scenes.atPhase(Scenes.MERGED), 2, 1, 6, 0);
    }

    private static void severalOrders() {
        OrderRows3 x = Scenes.atPhase(Scenes.GONE, 7);
        x.backorder(0);
        counts("a backorder", x, 2, 2, 0, 6);
        x.hold(1, 3);
        counts("held for it", x, 2, 2, 3, 6);
        x.order(0, 9, 1, 0);
        x.line(2, 4, 1000, 0);
        x.hold(2, 1000);
        counts("held for another", x, 3, 3, 1003, 6);
        x.goOn(1);
        x.goOn(1);
        x.pick(1, 3);
        x.goOn(1);
        x.goOn(1);
        counts("shipped of two orders", x, 3, 3, 1000, 9);
        x.line(2, 5, 8, 0);
        x.hold(3, 8);
        x.cancel(2);
        counts("cancelled lines hold nothing", x, 3, 4, 8, 9);
    }

    private static void fullCounts() {
        counts("none", new OrderRows3(), 0, 0, 0, 0);
        counts("19 orders", Scenes.nineteenOrders(), 19, 0, 0, 0);
        counts("20 orders", Scenes.fullOfOrders(), 20, 0, 0, 0);
        counts("59 lines", Scenes.lines(59), 8, 59, 0, 0);
        counts("60 lines", Scenes.fullOfLines(), 8, 60, 0, 0);
        counts("20 orders and 60 lines", Scenes.full(), 20, 60, 0, 0);
    }

    /** Sixty lines of a thousand pieces: held, then shipped order by order. */
    private static void greatestCounts() {
        OrderRows3 x = new OrderRows3();
        for (int order = 0; order < 8; order++) {
            x.order(0, 1 + order, 1, 0);
        }
        for (int line = 0; line < 60; line++) {
            x.line(line / 8, 1, 1000, 0);
            x.hold(line, 1000);
        }
        counts("all held", x, 8, 60, 60000, 0);
        for (int order = 0; order < 8; order++) {
            x.goOn(order);
            x.goOn(order);
        }
        for (int line = 0; line < 60; line++) {
            x.pick(line, 1000);
        }
        for (int order = 0; order < 8; order++) {
            x.goOn(order);
            counts("PACKED", x, 8, 60, 60000 - 8000 * order, 8000 * order);
            x.goOn(order);
        }
        counts("all shipped", x, 8, 60, 0, 60000);
    }

    private static void otherWhats() {
        for (int what : new int[] {Integer.MIN_VALUE, Integer.MIN_VALUE + 1, -1, 4, 256, Integer.MAX_VALUE}) {
            check.keeps("count(" + what + ")", -1, () -> Scenes.atPhase(Scenes.OPEN), x -> x.count(what));
            check.keeps("count(" + what + ") when full", -1, Scenes::full, x -> x.count(what));
        }
        check.keeps("count(2)", 6, () -> Scenes.atPhase(Scenes.OPEN), x -> x.count(2));
        check.keeps("count(3)", 6, () -> Scenes.atPhase(Scenes.GONE), x -> x.count(3));
    }
}
