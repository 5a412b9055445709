public final class Promise10JoinTest {
    private static final Check check = new Check("promise 10");

    public static void main(String[] args) {
        joins();
        joinsAgain();
        withoutLines();
        refusals();
        room();
        check.end();
    }

    private static long ask(OrderRows3 x, int order, int other) {
        x.join(order, other);
        return 0;
    }

    /** Orders 0, 1 and 2 of customer 1 with the lines 0 and 3, 1 and 4, 2 and 5; order 3 of customer 2. */
    private static OrderRows3 fourOrders() {
        OrderRows3 x = new OrderRows3();
        x.order(1, 5, 3, 30);
        x.order(1, 6, 2, 20);
        x.order(1, 7, 1, 10);
        x.order(2, 8, 1, 10);
        for (int line = 0; line < 6; line++) {
            x.line(line % 3, line, 10, 4);
        }
        return x;
    }

    private static void linesOf(OrderRows3 x, int order, int... due) {
        for (int i = 0; i < due.length; i++) {
            check.due("lineOf(" + order + ", " + i + ")", due[i], x.lineOf(order, i));
            check.due("the order of line " + due[i], order, Packed.order(x.packed(due[i])));
        }
        check.due("behind the last line of order " + order, -1, x.lineOf(order, due.length));
        check.due("lines of order " + order, due.length, x.told(order, 6));
    }

    private static void joins() {
        OrderRows3 x = fourOrders();
        x.hold(1, 4);
        x.join(0, 1);
        linesOf(x, 0, 0, 3, 1, 4);
        linesOf(x, 1);
        check.due("the other's phase", Scenes.MERGED, x.told(1, 0));
        check.due("into which", 0, x.told(1, 8));
        check.due("this one's phase", Scenes.OPEN, x.told(0, 0));
        check.due("this one was merged into none", -1, x.told(0, 8));
        check.due("this one's version", 4, x.told(0, 7));
        check.due("the other's version", 5, x.told(1, 7));
        check.due("this one's rank", 3, x.told(0, 3));
        check.due("this one's day", 30, x.told(0, 4));
        check.due("the other's own number", 6, x.told(1, 2));
        check.due("what is held stays held", 4, Packed.held(x.packed(1)));
        check.due("count(2)", 4, x.count(2));
        check.due("count(0)", 4, x.count(0));
        check.due("count(1)", 6, x.count(1));
        check.due("the other waits no more", 2, x.ready(0));
    }

    private static void joinsAgain() {
        OrderRows3 x = fourOrders();
        x.join(1, 0);
        linesOf(x, 1, 1, 4, 0, 3);
        x.join(2, 1);
        linesOf(x, 2, 2, 5, 1, 4, 0, 3);
        linesOf(x, 1);
        check.due("the first was merged into 1", 1, x.told(0, 8));
        check.due("the second into 2", 2, x.told(1, 8));
        check.due("the line that came first goes on with its order", 1, x.goOn(2));
        check.due("rules where it is ALLOCATED", 1, x.change(0, 2, 0) ? 1 : 0);
    }

    private static void withoutLines() {
        OrderRows3 x = new OrderRows3();
        x.order(1, 5, 3, 30);
        x.order(1, 6, 2, 20);
        x.join(1, 0);
        check.due("merged without a line", Scenes.MERGED, x.told(0, 0));
        check.due("no line", 0, x.told(1, 6));
    }

    private static OrderRows3 allocated(int order) {
        OrderRows3 x = fourOrders();
        x.goOn(order);
        return x;
    }

    private static OrderRows3 blocked(int order) {
        OrderRows3 x = fourOrders();
        x.block(order, 5, true);
        return x;
    }

    private static OrderRows3 merged() {
        OrderRows3 x = fourOrders();
        x.join(0, 1);
        return x;
    }

    private static OrderRows3 cancelled() {
        OrderRows3 x = fourOrders();
        x.cancel(1);
        x.cancel(4);
        return x;
    }

    private static void refusals() {
        refuses("join(-1, 0)", Check.NO_SUCH, Promise10JoinTest::fourOrders, -1, 0);
        refuses("join(0, -1)", Check.NO_SUCH, Promise10JoinTest::fourOrders, 0, -1);
        refuses("join(0, 4)", Check.NO_SUCH, Promise10JoinTest::fourOrders, 0, 4);
        refuses("join(4, 0)", Check.NO_SUCH, Promise10JoinTest::fourOrders, 4, 0);
        refuses("join(4, 4)", Check.NO_SUCH, Promise10JoinTest::fourOrders, 4, 4);
        refuses("the same", Check.STATE, Promise10JoinTest::fourOrders, 0, 0);
        refuses("different customers", Check.STATE, Promise10JoinTest::fourOrders, 0, 3);
        refuses("this one ALLOCATED", Check.STATE, () -> allocated(0), 0, 1);
        refuses("the other ALLOCATED", Check.STATE, () -> allocated(1), 0, 1);
        refuses("this one blocked", Check.STATE, () -> blocked(0), 0, 1);
        refuses("the other blocked", Check.STATE, () -> blocked(1), 0, 1);
        refuses("this one MERGED", Check.STATE, Promise10JoinTest::merged, 1, 2);
        refuses("the other MERGED", Check.STATE, Promise10JoinTest::merged, 2, 1);
        refuses("the other CANCELLED", Check.STATE, Promise10JoinTest::cancelled, 0, 1);
        OrderRows3 x = blocked(2);
        x.join(0, 1);
        check.due("a third one's block does not matter", Scenes.MERGED, x.told(1, 0));
    }

    private static void refuses(String what, Class<? extends RuntimeException> due, Check.Scene scene,
            int order, int other) {
        check.refuses(what, due, scene, x -> ask(x, order, other));
    }

    /** Order 0 with as many lines, the first one cancelled, and order 1 of the same customer with as many. */
    private static OrderRows3 linesOfTwo(int ofThis, int ofOther) {
        OrderRows3 x = new OrderRows3();
        x.order(1, 5, 3, 30);
        x.order(1, 6, 3, 30);
        for (int k = 0; k < ofThis; k++) {
            x.line(0, k, 5, 0);
        }
        for (int k = 0; k < ofOther; k++) {
            x.line(1, k, 5, 0);
        }
        x.cancel(0);
        return x;
    }

    private static OrderRows3 nineAndBlocked() {
        OrderRows3 x = linesOfTwo(5, 4);
        x.block(1, 0, true);
        return x;
    }

    private static void room() {
        OrderRows3 x = linesOfTwo(5, 3);
        x.join(0, 1);
        linesOf(x, 0, 0, 1, 2, 3, 4, 5, 6, 7);
        refuses("nine lines, a cancelled one counted", Check.NO_ROOM, () -> linesOfTwo(5, 4), 0, 1);
        refuses("sixteen lines", Check.NO_ROOM, () -> linesOfTwo(8, 8), 0, 1);
        refuses("nine lines and blocked", Check.STATE, Promise10JoinTest::nineAndBlocked, 0, 1);
        refuses("eight lines with themselves", Check.STATE, Scenes::eightLines, 0, 0);
    }
}
