public final class Promise10JoinTest {
    private static final Check check = new Check("promise 10");

    public static void main(String[] args) {
        joins();
        joinsAgain();
        withoutLines();
        ordersThatThereAre();
        theSame();
        notBothOpen();
        differentCustomers();
        somebodyBlocks();
        room();
        check.end();
    }

    /** Orders 0, 1 and 2 of customer 1 with the lines 0 and 3, 1 and 4, 2 and 5; order 3 of customer 2. */
    private static OrderRows3 fourOrders() {
        OrderRows3 x = new OrderRows3();
        x.order(1, 5, 3, 30);
        x.order(1, 6, 2, 20);
        x.order(1, 7, 1, 10);
        x.order(2, 8, 1, 10);
        for (int line = 0; line < 6; line++) {
            x.line(line % 3, line, 10, 4);
        }
        return x;
    }

    private static void linesOf(OrderRows3 x, int order, int... due) {
        for (int i = 0; i < due.length; i++) {
            check.due("lineOf(" + order + ", " + i + ")", due[i], x.lineOf(order, i));
            check.due("the order of line " + due[i], order, Packed.order(x.packed(due[i])));
        }
        check.due("behind the last line of order " + order, -1, x.lineOf(order, due.length));
        check.due("lines of order " + order, due.length, x.told(order, 6));
    }

    private static void joins() {
        OrderRows3 x = fourOrders();
        x.hold(1, 4);
        x.join(0, 1);
        linesOf(x, 0, 0, 3, 1, 4);
        linesOf(x, 1);
        check.due("the other's phase", Scenes.MERGED, x.told(1, 0));
        check.due("into which", 0, x.told(1, 8));
        check.due("this one's phase", Scenes.OPEN, x.told(0, 0));
        check.due("this one was merged into none", -1, x.told(0, 8));
        check.due("this one's version", 4, x.told(0, 7));
        check.due("the other's version", 5, x.told(1, 7));
        check.due("this one's rank", 3, x.told(0, 3));
        check.due("this one's day", 30, x.told(0, 4));
        check.due("the other's own number", 6, x.told(1, 2));
        check.due("what is held stays held", 4, Packed.held(x.packed(1)));
        check.due("count(2)", 4, x.count(2));
        check.due("count(0)", 4, x.count(0));
        check.due("count(1)", 6, x.count(1));
        check.due("the other waits no more", 2, x.ready(0));
    }

    private static void joinsAgain() {
        OrderRows3 x = fourOrders();
        x.join(1, 0);
        linesOf(x, 1, 1, 4, 0, 3);
        x.join(2, 1);
        linesOf(x, 2, 2, 5, 1, 4, 0, 3);
        linesOf(x, 1);
        check.due("the first was merged into 1", 1, x.told(0, 8));
        check.due("the second into 2", 2, x.told(1, 8));
        check.due("the line that came first goes on with its order", 1, x.goOn(2));
        check.due("rules where it is ALLOCATED", 1, x.change(0, 2, 0) ? 1 : 0);
    }

    private static void withoutLines() {
        OrderRows3 x = new OrderRows3();
        x.order(1, 5, 3, 30);
        x.order(1, 6, 2, 20);
        x.join(1, 0);
        check.due("merged without a line", Scenes.MERGED, x.told(0, 0));
        check.due("no line", 0, x.told(1, 6));
    }

    private static void ordersThatThereAre() {
        check.refusesOutside("join to order", Check.NO_SUCH, 0, 3, Promise10JoinTest::fourOrders,
                (x, v) -> Scenes.join(x, v, 0));
        check.refusesOutside("join of order", Check.NO_SUCH, 0, 3, Promise10JoinTest::fourOrders,
                (x, v) -> Scenes.join(x, 0, v));
        check.refusesOutside("join with itself of order", Check.NO_SUCH, 0, 3, Promise10JoinTest::fourOrders,
                (x, v) -> Scenes.join(x, v, v));
        check.refusesOutside("join of order, when full,", Check.NO_SUCH, 0, 19, Scenes::full,
                (x, v) -> Scenes.join(x, 0, v));
        OrderRows3 x = Scenes.full();
        x.join(19, 3);
        linesOf(x, 19, 19, 39, 59, 3, 23, 43);
        linesOf(x, 3);
        check.due("the last order took it", 19, x.told(3, 8));
    }

    private static void theSame() {
        for (int order = 0; order < 4; order++) {
            refuses("the same, " + order, Check.STATE, Promise10JoinTest::fourOrders, order, order);
        }
        refuses("the same without lines", Check.STATE, () -> Scenes.orders(1), 0, 0);
    }

    /** Order 0 in a phase, order 1 of the same customer OPEN, order 2 too. */
    private static OrderRows3 besideOpen(int phase) {
        OrderRows3 x = Scenes.atPhase(phase);
        while (x.count(0) < 3) {
            x.order(3, 60 + x.count(0), 4, 70);
        }
        return x;
    }

    private static void notBothOpen() {
        for (int phase = Scenes.ALLOCATED; phase <= Scenes.MERGED; phase++) {
            int at = phase;
            refuses("this one in phase " + at, Check.STATE, () -> besideOpen(at), 0, 2);
            refuses("the other in phase " + at, Check.STATE, () -> besideOpen(at), 2, 0);
        }
        check.answers("both OPEN", 0, () -> besideOpen(Scenes.OPEN), x -> Scenes.join(x, 2, 0));
        refuses("both ALLOCATED", Check.STATE, Promise10JoinTest::bothAllocated, 0, 1);
    }

    private static OrderRows3 bothAllocated() {
        OrderRows3 x = fourOrders();
        x.goOn(0);
        x.goOn(1);
        return x;
    }

    private static void differentCustomers() {
        refuses("customers 1 and 2", Check.STATE, Promise10JoinTest::fourOrders, 0, 3);
        refuses("customers 2 and 1", Check.STATE, Promise10JoinTest::fourOrders, 3, 0);
        refuses("customers 0 and 7", Check.STATE, Promise10JoinTest::firstAndLastCustomer, 0, 1);
    }

    private static OrderRows3 firstAndLastCustomer() {
        OrderRows3 x = new OrderRows3();
        x.order(0, 5, 1, 0);
        x.order(7, 5, 1, 0);
        return x;
    }

    private static OrderRows3 blocked(int order, int person) {
        OrderRows3 x = fourOrders();
        x.block(order, person, true);
        return x;
    }

    private static void somebodyBlocks() {
        for (int person = 0; person < 8; person += 7) {
            int who = person;
            refuses("this one blocked by " + who, Check.STATE, () -> blocked(0, who), 0, 1);
            refuses("the other blocked by " + who, Check.STATE, () -> blocked(1, who), 0, 1);
            check.answers("a third one blocked by " + who, 0, () -> blocked(2, who), x -> Scenes.join(x, 0, 1));
            check.answers("blocked no more by " + who, 0,
                    Scenes.then(() -> blocked(0, who), x -> x.block(0, who, false)), x -> Scenes.join(x, 0, 1));
        }
    }

    private static void refuses(String what, Class<? extends RuntimeException> due, Check.Scene scene,
            int order, int other) {
        check.refuses(what, due, scene, x -> Scenes.join(x, order, other));
    }

    /** Orders 0 and 1 of one customer with as many lines each. */
    private static OrderRows3 linesOfTwo(int ofThis, int ofOther) {
        OrderRows3 x = Scenes.linesOfOne(ofThis);
        x.order(0, 2, 3, 30);
        for (int k = 0; k < ofOther; k++) {
            x.line(1, k, 5, 0);
        }
        return x;
    }

    private static void room() {
        int[][] enough = {{0, 8}, {8, 0}, {1, 7}, {7, 1}, {4, 4}, {5, 3}};
        for (int[] lines : enough) {
            OrderRows3 x = linesOfTwo(lines[0], lines[1]);
            x.join(0, 1);
            linesOf(x, 0, 0, 1, 2, 3, 4, 5, 6, 7);
            linesOf(x, 1);
        }
        int[][] tooMany = {{1, 8}, {8, 1}, {5, 4}, {8, 8}};
        for (int[] lines : tooMany) {
            refuses(lines[0] + " and " + lines[1] + " lines", Check.NO_ROOM,
                    () -> linesOfTwo(lines[0], lines[1]), 0, 1);
        }
        refuses("nine lines, one of this order's cancelled", Check.NO_ROOM,
                Scenes.then(() -> linesOfTwo(5, 4), x -> x.cancel(0)), 0, 1);
        refuses("nine lines, one of the other's cancelled", Check.NO_ROOM,
                Scenes.then(() -> linesOfTwo(5, 4), x -> x.cancel(8)), 0, 1);
        check.refuses("a ninth line after a join", Check.NO_ROOM,
                Scenes.then(() -> linesOfTwo(4, 4), x -> Scenes.join(x, 0, 1)), x -> x.line(0, 1, 1, 0));
        check.answers("an eighth line after a join", 7,
                Scenes.then(() -> linesOfTwo(3, 4), x -> Scenes.join(x, 0, 1)), x -> x.line(0, 1, 1, 0));
        check.answers("a join when no line has room any more", 0,
                Scenes::full, x -> Scenes.join(x, 0, 4));
    }
}
