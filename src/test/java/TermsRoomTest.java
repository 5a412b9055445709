/**
 * "at most 20" orders, "at most 60" lines "of all orders together, as they come; at most 8 of one order": the last one
 * that has room, the first that has none, what makes no room, and what needs none.
 */
public final class TermsRoomTest {
    private static final Check check = new Check("room");

    public static void main(String[] args) {
        twentyOrders();
        nothingMakesRoomForOrders();
        ordersNeedNoLines();
        sixtyLines();
        nothingMakesRoomForLines();
        eightLinesOfOne();
        whatNeedsNoRoom();
        numbersGoOn();
        check.end();
    }

    private static void twentyOrders() {
        OrderRows3 x = new OrderRows3();
        for (int k = 0; k < 20; k++) {
            check.due("order " + k, k, x.order(k % 8, 1 + k, 1, 0));
        }
        check.due("count(0)", 20, x.count(0));
        check.refuses("the 21st", Check.NO_ROOM, Scenes::fullOfOrders, y -> y.order(0, 1, 1, 0));
        check.refuses("the 21st with the greatest numbers", Check.NO_ROOM, Scenes::fullOfOrders,
                y -> y.order(7, 99999, 9, 10000));
    }

    private static void nothingMakesRoomForOrders() {
        Check.Scene joined = Scenes.then(Scenes::fullOfOrders, x -> Scenes.join(x, 0, 4));
        check.refuses("the 21st beside a MERGED one", Check.NO_ROOM, joined, x -> x.order(7, 1, 1, 0));
        Check.Scene cancelled = Scenes.then(Scenes::fullOfOrders, x -> x.line(3, 1, 1, 0) + x.cancel(0));
        check.refuses("the 21st beside a CANCELLED one", Check.NO_ROOM, cancelled, x -> x.order(7, 1, 1, 0));
        check.refuses("the 21st beside a CLOSED one", Check.NO_ROOM, TermsRoomTest::twentyWithClosed,
                x -> x.order(7, 1, 1, 0));
    }

    private static OrderRows3 twentyWithClosed() {
        OrderRows3 x = Scenes.closedAndBackordered();
        for (int k = x.count(0); k < 20; k++) {
            x.order(0, k, 1, 0);
        }
        return x;
    }

    private static void ordersNeedNoLines() {
        check.answers("an order beside sixty lines", 8, Scenes::fullOfLines, x -> x.order(0, 99, 1, 0));
    }

    private static void sixtyLines() {
        OrderRows3 x = Scenes.fullOfOrders();
        for (int k = 0; k < 60; k++) {
            check.due("line " + k, k, x.line(k % 20, 1, 1, 0));
        }
        check.due("count(1)", 60, x.count(1));
        for (int order = 0; order < 20; order++) {
            int at = order;
            check.refuses("the 61st, of order " + order, Check.NO_ROOM, Scenes::full, y -> y.line(at, 1, 1, 0));
        }
    }

    private static void nothingMakesRoomForLines() {
        check.refuses("the 61st beside a cancelled one", Check.NO_ROOM,
                Scenes.then(Scenes::full, x -> x.cancel(0)), x -> x.line(1, 1, 1, 0));
        check.refuses("the 61st, where one of its order is cancelled", Check.NO_ROOM,
                Scenes.then(Scenes::full, x -> x.cancel(0)), x -> x.line(0, 1, 1, 0));
        check.refuses("the 61st beside a CANCELLED order", Check.NO_ROOM,
                Scenes.then(Scenes::full, x -> x.cancel(0) + x.cancel(20) + x.cancel(40)), x -> x.line(1, 1, 1, 0));
        check.refuses("the 61st after a join", Check.NO_ROOM,
                Scenes.then(Scenes::full, x -> Scenes.join(x, 0, 4)), x -> x.line(0, 1, 1, 0));
    }

    private static void eightLinesOfOne() {
        OrderRows3 x = new OrderRows3();
        x.order(0, 1, 1, 0);
        x.order(0, 2, 1, 0);
        for (int k = 0; k < 8; k++) {
            check.due("line " + k, k, x.line(0, 1, 1, 0));
            check.due("lines then", k + 1, x.told(0, 6));
        }
        check.refuses("a ninth", Check.NO_ROOM, Scenes::eightLines, y -> y.line(0, 1, 1, 0));
        check.refuses("a ninth beside seven cancelled ones", Check.NO_ROOM, TermsRoomTest::sevenCancelled,
                y -> y.line(0, 1, 1, 0));
        check.due("the first of another order", 8, x.line(1, 1, 1, 0));
    }

    private static OrderRows3 sevenCancelled() {
        OrderRows3 x = Scenes.eightLines();
        for (int line = 0; line < 7; line++) {
            x.cancel(line);
        }
        return x;
    }

    /** All but order, line and backorder are done in a full object as in another. */
    private static void whatNeedsNoRoom() {
        OrderRows3 x = Scenes.full();
        check.due("hold", 60, x.hold(59, 60));
        check.due("wanted", 1, x.change(39, 0, 1000) ? 1 : 0);
        check.due("rules", 1, x.change(39, 2, 6) ? 1 : 0);
        check.due("instead", 1, x.change(39, 1, 15) ? 1 : 0);
        check.due("move", 1, x.move(19, 10000) ? 1 : 0);
        check.due("block", 1, x.block(19, 7, true));
        check.due("no more", 0, x.block(19, 7, false));
        check.due("to ALLOCATED", 1, x.goOn(19));
        check.due("to PICKING", 2, x.goOn(19));
        check.due("pick", 60, x.pick(59, 60));
        check.due("cancel", 0, x.cancel(19));
        check.due("to PACKED", 3, x.goOn(19));
        check.due("to GONE", 4, x.goOn(19));
        check.due("short", 1000, x.told(19, 9));
        check.due("not to CLOSED", -1, x.goOn(19));
        check.due("backorder", "java.lang.UnsupportedOperationException", Check.outcome(x, y -> y.backorder(39)));
        check.due("not backordered", 0, Packed.backordered(x.packed(39)));
        x.join(0, 4);
        check.due("MERGED", Scenes.MERGED, x.told(4, 0));
    }

    /** What was refused or doubled takes no number. */
    private static void numbersGoOn() {
        OrderRows3 x = new OrderRows3();
        Check.outcome(x, y -> y.order(8, 1, 1, 0));
        check.due("the first order", 0, x.order(0, 1, 1, 0));
        check.due("doubled", -1, x.order(0, 1, 1, 0));
        check.due("the second order", 1, x.order(0, 2, 1, 0));
        Check.outcome(x, y -> y.line(0, 16, 1, 0));
        check.due("the first line", 0, x.line(0, 15, 1, 0));
        x.cancel(0);
        check.due("the second line, where the first is cancelled", 1, x.line(1, 15, 1, 0));
    }
}
