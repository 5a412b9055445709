public final class Promise02OrderTest {
    private static final Check check = new Check("promise 2");

    public static void main(String[] args) {
        numbersAsTheyCome();
        tellsWhatItWasMadeOf();
        doubledNumbers();
        doubledInEachPhase();
        notDoubled();
        backordersHaveNoOwnNumber();
        customers();
        ownNumbers();
        ranks();
        days();
        room();
        check.end();
    }

    private static void numbersAsTheyCome() {
        OrderRows3 x = new OrderRows3();
        check.due("the first order with the least numbers", 0, x.order(0, 1, 1, 0));
        check.due("the second with the greatest", 1, x.order(7, 99999, 9, 10000));
        check.due("the third", 2, x.order(4, 77, 5, 300));
        check.due("count(0)", 3, x.count(0));
    }

    private static void tellsWhatItWasMadeOf() {
        OrderRows3 x = new OrderRows3();
        x.order(5, 1234, 6, 789);
        int[] due = {0, 5, 1234, 6, 789, 0, 0, 1, -1, 0};
        for (int what = 0; what < due.length; what++) {
            check.due("told(0, " + what + ")", due[what], x.told(0, what));
        }
    }

    private static OrderRows3 threeOrders() {
        OrderRows3 x = new OrderRows3();
        x.order(1, 5, 1, 0);
        x.order(2, 6, 1, 0);
        x.order(1, 6, 1, 0);
        return x;
    }

    private static void doubledNumbers() {
        check.keeps("the number of order 0 again", -1, Promise02OrderTest::threeOrders, x -> x.order(1, 5, 9, 9));
        check.keeps("the number of order 1 again", -2, Promise02OrderTest::threeOrders, x -> x.order(2, 6, 1, 0));
        check.keeps("the number of order 2 again", -3, Promise02OrderTest::threeOrders, x -> x.order(1, 6, 1, 0));
        check.keeps("the number of order 19 again", -20, Promise02OrderTest::twentyOfOneCustomer,
                x -> x.order(7, 99999, 1, 0));
        check.keeps("the least number again", -1, Promise02OrderTest::twentyOfOneCustomer, x -> x.order(7, 1, 1, 0));
    }

    private static void doubledInEachPhase() {
        for (int phase = Scenes.OPEN; phase <= Scenes.MERGED; phase++) {
            int at = phase;
            check.keeps("a doubled number in phase " + at, -1,
                    () -> Scenes.atPhase(at), x -> x.order(3, 50, 1, 0));
        }
    }

    /** The numbers beside a taken one, and those that would meet it in 8 or 16 bits. */
    private static void notDoubled() {
        int[] others = {4, 6, 5 + 256, 5 + 65536};
        for (int number : others) {
            check.answers("customer 1, number " + number, 1, Promise02OrderTest::oneOrder,
                    x -> x.order(1, number, 1, 0));
        }
        check.answers("customer 0, number 5", 1, Promise02OrderTest::oneOrder, x -> x.order(0, 5, 1, 0));
        check.answers("customer 2, number 5", 1, Promise02OrderTest::oneOrder, x -> x.order(2, 5, 1, 0));
    }

    private static OrderRows3 oneOrder() {
        OrderRows3 x = new OrderRows3();
        x.order(1, 5, 1, 0);
        return x;
    }

    private static OrderRows3 twentyOfOneCustomer() {
        OrderRows3 x = new OrderRows3();
        for (int k = 0; k < 19; k++) {
            x.order(7, 1 + k, 1, 0);
        }
        x.order(7, 99999, 1, 0);
        return x;
    }

    private static OrderRows3 withBackorder() {
        OrderRows3 x = Scenes.atPhase(Scenes.GONE, 7);
        x.backorder(0);
        return x;
    }

    private static void backordersHaveNoOwnNumber() {
        check.refuses("the number 0 of a backorder", Check.ARGUMENT, Promise02OrderTest::withBackorder,
                x -> x.order(3, 0, 1, 0));
        check.answers("the number 1 beside a backorder", 2, Promise02OrderTest::withBackorder,
                x -> x.order(3, 1, 1, 0));
        check.keeps("the number of a backordered order", -1, Promise02OrderTest::withBackorder,
                x -> x.order(3, 50, 1, 0));
    }

    private static void customers() {
        check.range("customer", 0, 7, OrderRows3::new, (x, v) -> x.order(v, 1, 1, 0), x -> x.told(0, 1));
    }

    private static void ownNumbers() {
        check.range("own number", 1, 99999, OrderRows3::new, (x, v) -> x.order(0, v, 1, 0), x -> x.told(0, 2));
    }

    private static void ranks() {
        check.range("rank", 1, 9, OrderRows3::new, (x, v) -> x.order(0, 1, v, 0), x -> x.told(0, 3));
    }

    private static void days() {
        check.range("day", 0, 10000, OrderRows3::new, (x, v) -> x.order(0, 1, 1, v), x -> x.told(0, 4));
    }

    private static void room() {
        check.answers("the 20th order", 19, Scenes::nineteenOrders, x -> x.order(5, 1, 1, 0));
        check.refuses("the 21st order", Check.NO_ROOM, Scenes::fullOfOrders, x -> x.order(5, 1, 1, 0));
        check.keeps("a doubled number when full", -20, Scenes::fullOfOrders, x -> x.order(3, 119, 1, 0));
        OrderRows3 x = Scenes.fullOfOrders();
        check.due("count(0) when full", 20, x.count(0));
        check.due("the own number of the last", 119, x.told(19, 2));
    }
}
