/**
 * "VERSIONS": an order's version is 1 at first, and one more with each line, change, hold, pick, cancel, join, block
 * and going on that was done; with nothing else, and with nothing that was done to another order.
 */
public final class TermsVersionsTest {
    private static final Check check = new Check("versions");

    public static void main(String[] args) {
        firstVersions();
        whatCounts();
        joinCountsForBoth();
        cancelOfTheLastLineCountsOnce();
        everyStepCounts();
        whatWasNotDone();
        whatOnlyTells();
        backorderCountsForNone();
        check.end();
    }

    private static void versions(String what, OrderRows3 x, int... due) {
        for (int order = 0; order < due.length; order++) {
            check.due(what + ": version of order " + order, due[order], x.told(order, 7));
        }
    }

    /** Order 0 without lines, order 1 with line 0 that holds 6 of 10, order 2 with line 1, all of one customer. */
    private static OrderRows3 threeOrders() {
        OrderRows3 x = new OrderRows3();
        x.order(0, 1, 1, 0);
        x.order(0, 2, 1, 0);
        x.order(0, 3, 1, 0);
        x.line(1, 1, 10, 3);
        x.hold(0, 6);
        x.line(2, 1, 10, 3);
        return x;
    }

    private static void firstVersions() {
        versions("at first", Scenes.fullOfOrders(), 1, 1, 1, 1, 1, 1, 1, 1, 1, 1, 1, 1, 1, 1, 1, 1, 1, 1, 1, 1);
        versions("three orders", threeOrders(), 1, 3, 2);
    }

    private static void counts(String what, Check.Call call) {
        OrderRows3 x = threeOrders();
        call.on(x);
        versions(what, x, 1, 4, 2);
    }

    private static void whatCounts() {
        counts("line", x -> x.line(1, 1, 1, 0));
        counts("wanted", x -> x.change(0, 0, 8) ? 1 : 0);
        counts("wanted below what is held", x -> x.change(0, 0, 1) ? 1 : 0);
        counts("wanted as before", x -> x.change(0, 0, 10) ? 1 : 0);
        counts("instead", x -> x.change(0, 1, 8) ? 1 : 0);
        counts("rules", x -> x.change(0, 2, 7) ? 1 : 0);
        counts("day", x -> x.move(1, 10000) ? 1 : 0);
        counts("day as before", x -> x.move(1, 0) ? 1 : 0);
        counts("hold of one", x -> x.hold(0, 1));
        counts("hold of four", x -> x.hold(0, 4));
        counts("cancel", x -> x.cancel(0));
        counts("block", x -> x.block(1, 7, true));
        counts("going on", x -> x.goOn(1));
        OrderRows3 picking = Scenes.atPhase(Scenes.PICKING);
        picking.pick(0, 6);
        versions("pick", picking, 6);
        OrderRows3 blocked = threeOrders();
        blocked.block(1, 7, true);
        blocked.block(1, 7, false);
        versions("block and no more", blocked, 1, 5, 2);
    }

    private static void joinCountsForBoth() {
        OrderRows3 x = threeOrders();
        x.join(1, 2);
        versions("join of 2 to 1", x, 1, 4, 3);
        x.join(0, 1);
        versions("join of 1 to 0", x, 2, 5, 3);
        x.hold(0, 1);
        x.hold(1, 1);
        versions("holds for lines that came to 0", x, 4, 5, 3);
    }

    private static void cancelOfTheLastLineCountsOnce() {
        OrderRows3 x = threeOrders();
        x.line(1, 2, 5, 0);
        x.cancel(0);
        versions("one of two cancelled", x, 1, 5, 2);
        x.cancel(2);
        versions("the last one cancelled", x, 1, 6, 2);
        check.due("CANCELLED", Scenes.CANCELLED, x.told(1, 0));
    }

    private static void everyStepCounts() {
        OrderRows3 x = Scenes.wants(10, 4);
        for (int phase = Scenes.ALLOCATED; phase <= Scenes.GONE; phase++) {
            x.goOn(0);
            versions("phase " + phase, x, 2 + phase);
        }
        check.due("not to CLOSED", -1, x.goOn(0));
        versions("not CLOSED", x, 6);
        x.backorder(0);
        x.goOn(0);
        versions("CLOSED", x, 7, 2);
    }

    private static void doesNotCount(String what, long due, Check.Call call) {
        check.keeps(what, due, TermsVersionsTest::threeOrders, call);
    }

    private static void whatWasNotDone() {
        doesNotCount("a doubled order", -2, x -> x.order(0, 2, 5, 5));
        doesNotCount("going on without a line", -1, x -> x.goOn(0));
        doesNotCount("going on with nothing held", -1, x -> x.goOn(2));
        for (int phase = Scenes.GONE; phase <= Scenes.MERGED; phase++) {
            int at = phase;
            check.keeps("move in phase " + at, 0, () -> Scenes.atPhase(at), x -> x.move(0, 5) ? 1 : 0);
        }
        check.keeps("wanted when ALLOCATED", 0, () -> Scenes.atPhase(Scenes.ALLOCATED),
                x -> x.change(0, 0, 5) ? 1 : 0);
        check.refuses("a line that was refused", Check.ARGUMENT, TermsVersionsTest::threeOrders,
                x -> x.line(1, 1, 0, 0));
        check.refuses("a hold that was refused", Check.STATE, TermsVersionsTest::threeOrders, x -> x.hold(0, 5));
        check.refuses("a block that was refused", Check.STATE, TermsVersionsTest::threeOrders,
                x -> x.block(1, 0, false));
        check.refuses("a join that was refused", Check.STATE, TermsVersionsTest::threeOrders,
                x -> Scenes.join(x, 1, 1));
    }

    private static void whatOnlyTells() {
        doesNotCount("ready", 0, x -> x.ready(0));
        doesNotCount("told", 3, x -> x.told(1, 7));
        doesNotCount("lineOf", 0, x -> x.lineOf(1, 0));
        doesNotCount("packed", 1 | 3 << 9 | 10 << 12 | 6L << 22 | 1L << 52 | 1L << 54, x -> x.packed(0));
        doesNotCount("count", 6, x -> x.count(2));
    }

    /** The new order has the version 2, for its line. */
    private static void backorderCountsForNone() {
        OrderRows3 x = Scenes.atPhase(Scenes.GONE, 7);
        versions("GONE", x, 8);
        x.backorder(0);
        versions("backordered", x, 8, 2);
    }
}
