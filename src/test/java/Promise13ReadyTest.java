public final class Promise13ReadyTest {
    private static final Check check = new Check("promise 13");

    public static void main(String[] args) {
        priority();
        rankBeforeDay();
        dayBeforeNumber();
        numberAtLast();
        phases();
        blocked();
        many();
        notSoMany();
        belowZero();
        check.end();
    }

    private static void waiting(String what, OrderRows3 x, int... due) {
        for (int i = 0; i < due.length; i++) {
            check.due(what + ": ready(" + i + ")", due[i], x.ready(i));
        }
        check.due(what + ": behind the last", -1, x.ready(due.length));
        check.due(what + ": far behind", -1, x.ready(Integer.MAX_VALUE));
    }

    /** The own numbers fall where the orders' numbers rise. */
    private static OrderRows3 fiveOrders() {
        OrderRows3 x = new OrderRows3();
        x.order(0, 99, 5, 20);
        x.order(1, 98, 5, 20);
        x.order(2, 97, 5, 10);
        x.order(3, 96, 2, 9000);
        x.order(4, 95, 9, 0);
        return x;
    }

    private static void priority() {
        OrderRows3 x = fiveOrders();
        waiting("at first", x, 3, 2, 0, 1, 4);
        x.move(1, 19);
        waiting("an earlier day", x, 3, 2, 1, 0, 4);
        x.move(2, 21);
        waiting("a later day", x, 3, 1, 0, 2, 4);
        x.block(1, 6, true);
        waiting("blocked", x, 3, 0, 2, 4);
        x.block(1, 6, false);
        waiting("blocked no more", x, 3, 1, 0, 2, 4);
    }

    private static void rankBeforeDay() {
        OrderRows3 x = new OrderRows3();
        x.order(0, 1, 2, 0);
        x.order(0, 2, 1, 10000);
        waiting("rank before day", x, 1, 0);
    }

    private static void dayBeforeNumber() {
        OrderRows3 x = new OrderRows3();
        x.order(0, 1, 9, 10000);
        x.order(0, 2, 9, 9999);
        x.order(0, 3, 9, 0);
        x.order(0, 4, 9, 1);
        waiting("day before number", x, 2, 3, 1, 0);
    }

    /** Neither the customer nor the own number nor what the order wants counts. */
    private static void numberAtLast() {
        OrderRows3 x = new OrderRows3();
        x.order(7, 99999, 5, 50);
        x.order(0, 1, 5, 50);
        x.order(3, 500, 5, 50);
        x.line(2, 1, 1, 4);
        x.goOn(2);
        waiting("number at last", x, 0, 1, 2);
    }

    private static void blocked() {
        for (int person = 0; person < 8; person++) {
            OrderRows3 x = fiveOrders();
            x.block(3, person, true);
            waiting("blocked by " + person, x, 2, 0, 1, 4);
        }
        OrderRows3 all = Scenes.fullOfOrders();
        for (int order = 0; order < 20; order++) {
            all.block(order, 7, true);
        }
        waiting("all blocked", all);
        all.block(19, 7, false);
        waiting("all blocked but the last", all, 19);
    }

    private static void phases() {
        for (int phase = Scenes.OPEN; phase <= Scenes.CANCELLED; phase++) {
            OrderRows3 x = Scenes.atPhase(phase);
            if (phase <= Scenes.ALLOCATED) {
                waiting("phase " + phase, x, 0);
            } else {
                waiting("phase " + phase, x);
            }
        }
        waiting("MERGED", Scenes.atPhase(Scenes.MERGED), 1);
    }

    private static void many() {
        OrderRows3 x = new OrderRows3();
        for (int k = 0; k < 20; k++) {
            x.order(0, 1 + k, 9 - k % 9, 7);
        }
        waiting("twenty orders", x, 8, 17, 7, 16, 6, 15, 5, 14, 4, 13, 3, 12, 2, 11, 1, 10, 19, 0, 9, 18);
    }

    private static void notSoMany() {
        for (int i : new int[] {5, 6, 19, 20, 21, Integer.MAX_VALUE - 1, Integer.MAX_VALUE}) {
            check.keeps("ready(" + i + ") of five", -1, Promise13ReadyTest::fiveOrders, x -> x.ready(i));
        }
        check.keeps("ready(4) of five", 4, Promise13ReadyTest::fiveOrders, x -> x.ready(4));
        check.keeps("ready(0) of five", 3, Promise13ReadyTest::fiveOrders, x -> x.ready(0));
        check.keeps("ready(20) of twenty", -1, Scenes::fullOfOrders, x -> x.ready(20));
        check.keeps("ready(19) of twenty", 17, Scenes::fullOfOrders, x -> x.ready(19));
    }

    private static void belowZero() {
        for (int i : new int[] {-1, -2, Integer.MIN_VALUE + 1, Integer.MIN_VALUE}) {
            check.refuses("ready(" + i + ")", Check.ARGUMENT, Promise13ReadyTest::fiveOrders, x -> x.ready(i));
            check.refuses("ready(" + i + ") when full", Check.ARGUMENT, Scenes::full, x -> x.ready(i));
        }
    }
}
