public final class Promise02OrderTest {
    private static final Check check = new Check("promise 2");

    public static void main(String[] args) {
        numbersAsTheyCome();
        tellsWhatItWasMadeOf();
        doubledNumbers();
        ranges();
        room();
        check.end();
    }

    private static void numbersAsTheyCome() {
        OrderRows3 x = new OrderRows3();
        check.due("the first order with the least numbers", 0, x.order(0, 1, 1, 0));
        check.due("the second with the greatest", 1, x.order(7, 99999, 9, 10000));
        check.due("the third", 2, x.order(4, 77, 5, 300));
        check.due("count(0)", 3, x.count(0));
    }

    private static void tellsWhatItWasMadeOf() {
        OrderRows3 x = new OrderRows3();
        x.order(5, 1234, 6, 789);
        int[] due = {0, 5, 1234, 6, 789, 0, 0, 1, -1, 0};
        for (int what = 0; what < due.length; what++) {
            check.due("told(0, " + what + ")", due[what], x.told(0, what));
        }
    }

    private static OrderRows3 threeOrders() {
        OrderRows3 x = new OrderRows3();
        x.order(1, 5, 1, 0);
        x.order(2, 6, 1, 0);
        x.order(1, 6, 1, 0);
        return x;
    }

    private static void doubledNumbers() {
        check.keeps("the number of order 0 again", -1, Promise02OrderTest::threeOrders, x -> x.order(1, 5, 9, 9));
        check.keeps("the number of order 1 again", -2, Promise02OrderTest::threeOrders, x -> x.order(2, 6, 1, 0));
        check.keeps("the number of order 2 again", -3, Promise02OrderTest::threeOrders, x -> x.order(1, 6, 1, 0));
        OrderRows3 x = threeOrders();
        check.due("another customer's number", 3, x.order(2, 5, 1, 0));
        check.keeps("the number of a cancelled order", -1,
                () -> Scenes.atPhase(Scenes.CANCELLED), y -> y.order(3, 50, 1, 0));
        check.keeps("the number of a merged order", -1,
                () -> Scenes.atPhase(Scenes.MERGED), y -> y.order(3, 50, 1, 0));
        check.keeps("the number of a closed order", -1,
                () -> Scenes.atPhase(Scenes.CLOSED), y -> y.order(3, 50, 1, 0));
    }

    private static void ranges() {
        refusesArgument(-1, 1, 1, 0);
        refusesArgument(8, 1, 1, 0);
        refusesArgument(Integer.MIN_VALUE, 1, 1, 0);
        refusesArgument(0, 0, 1, 0);
        refusesArgument(0, 100000, 1, 0);
        refusesArgument(0, -1, 1, 0);
        refusesArgument(0, 1, 0, 0);
        refusesArgument(0, 1, 10, 0);
        refusesArgument(0, 1, 1, -1);
        refusesArgument(0, 1, 1, 10001);
        refusesArgument(0, 1, 1, Integer.MAX_VALUE);
        check.refuses("a doubled number with a wrong rank", Check.ARGUMENT,
                Promise02OrderTest::threeOrders, x -> x.order(1, 5, 10, 0));
        check.refuses("a doubled number with a wrong day", Check.ARGUMENT,
                Promise02OrderTest::threeOrders, x -> x.order(1, 5, 1, -1));
    }

    private static void refusesArgument(int customer, int number, int rank, int day) {
        check.refuses("order(" + customer + ", " + number + ", " + rank + ", " + day + ")", Check.ARGUMENT,
                OrderRows3::new, x -> x.order(customer, number, rank, day));
    }

    private static void room() {
        OrderRows3 x = Scenes.fullOfOrders();
        check.due("count(0) when full", 20, x.count(0));
        check.due("the own number of the last", 119, x.told(19, 2));
        check.refuses("the 21st order", Check.NO_ROOM, Scenes::fullOfOrders, y -> y.order(5, 1, 1, 0));
        check.refuses("a wrong 21st order", Check.ARGUMENT, Scenes::fullOfOrders, y -> y.order(5, 1, 0, 0));
        check.keeps("a doubled number when full", -20, Scenes::fullOfOrders, y -> y.order(3, 119, 1, 0));
    }
}
