public final class Promise15LineOfTest {
    private static final Check check = new Check("promise 15");

    public static void main(String[] args) {
        inItsOrder();
        refusals();
        check.end();
    }

    private static OrderRows3 twoOrders() {
        OrderRows3 x = new OrderRows3();
        x.order(0, 1, 1, 0);
        x.order(0, 2, 1, 0);
        x.line(1, 1, 1, 0);
        x.line(0, 2, 1, 0);
        x.line(1, 3, 1, 0);
        x.line(1, 4, 1, 0);
        return x;
    }

    private static void linesOf(String what, OrderRows3 x, int order, int... due) {
        for (int i = 0; i < due.length; i++) {
            check.due(what + ": lineOf(" + order + ", " + i + ")", due[i], x.lineOf(order, i));
        }
        check.due(what + ": behind the last", -1, x.lineOf(order, due.length));
        check.due(what + ": far behind", -1, x.lineOf(order, Integer.MAX_VALUE));
    }

    private static void inItsOrder() {
        OrderRows3 x = twoOrders();
        linesOf("at first", x, 0, 1);
        linesOf("at first", x, 1, 0, 2, 3);
        x.cancel(2);
        linesOf("a cancelled one stays", x, 1, 0, 2, 3);
        x.join(0, 1);
        linesOf("joined", x, 0, 1, 0, 2, 3);
        linesOf("MERGED", x, 1);
        x.line(0, 5, 1, 0);
        linesOf("a line behind these", x, 0, 1, 0, 2, 3, 4);
        linesOf("eight lines", Scenes.eightLines(), 0, 0, 1, 2, 3, 4, 5, 6, 7);
    }

    private static void refusals() {
        refuses(Check.NO_SUCH, -1, 0);
        refuses(Check.NO_SUCH, 2, 0);
        refuses(Check.NO_SUCH, 2, -1);
        refuses(Check.ARGUMENT, 0, -1);
        refuses(Check.ARGUMENT, 0, Integer.MIN_VALUE);
    }

    private static void refuses(Class<? extends RuntimeException> due, int order, int i) {
        check.refuses("lineOf(" + order + ", " + i + ")", due, Promise15LineOfTest::twoOrders, x -> x.lineOf(order, i));
    }
}
