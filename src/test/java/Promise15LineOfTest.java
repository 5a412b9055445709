public final class Promise15LineOfTest {
    private static final Check check = new Check("promise 15");

    public static void main(String[] args) {
        inItsOrder();
        withoutLines();
        notSoMany();
        ordersThatThereAre();
        belowZero();
        check.end();
    }

    private static OrderRows3 twoOrders() {
        OrderRows3 x = new OrderRows3();
        x.order(0, 1, 1, 0);
        x.order(0, 2, 1, 0);
        x.line(1, 1, 1, 0);
        x.line(0, 2, 1, 0);
        x.line(1, 3, 1, 0);
        x.line(1, 4, 1, 0);
        return x;
    }

    private static void linesOf(String what, OrderRows3 x, int order, int... due) {
        for (int i = 0; i < due.length; i++) {
            check.due(what + ": lineOf(" + order + ", " + i + ")", due[i], x.lineOf(order, i));
        }
        check.due(what + ": behind the last", -1, x.lineOf(order, due.length));
        check.due(what + ": far behind", -1, x.lineOf(order, Integer.MAX_VALUE));
    }

    private static void inItsOrder() {
        OrderRows3 x = twoOrders();
        linesOf("at first", x, 0, 1);
        linesOf("at first", x, 1, 0, 2, 3);
        x.cancel(2);
        linesOf("a cancelled one stays", x, 1, 0, 2, 3);
        x.join(0, 1);
        linesOf("joined", x, 0, 1, 0, 2, 3);
        linesOf("MERGED", x, 1);
        x.line(0, 5, 1, 0);
        linesOf("a line behind these", x, 0, 1, 0, 2, 3, 4);
        linesOf("eight lines", Scenes.eightLines(), 0, 0, 1, 2, 3, 4, 5, 6, 7);
    }

    private static void withoutLines() {
        linesOf("no line yet", Scenes.orders(1), 0);
        linesOf("MERGED", Scenes.atPhase(Scenes.MERGED), 0);
        linesOf("CANCELLED", Scenes.atPhase(Scenes.CANCELLED), 0, 0);
        linesOf("CLOSED", Scenes.atPhase(Scenes.CLOSED), 0, 0);
    }

    private static void notSoMany() {
        check.keeps("the eighth of eight", 7, Scenes::eightLines, x -> x.lineOf(0, 7));
        for (int i : new int[] {8, 9, 60, Integer.MAX_VALUE - 1, Integer.MAX_VALUE}) {
            check.keeps("lineOf(0, " + i + ") of eight", -1, Scenes::eightLines, x -> x.lineOf(0, i));
            check.keeps("lineOf(0, " + i + ") when MERGED", -1,
                    () -> Scenes.atPhase(Scenes.MERGED), x -> x.lineOf(0, i));
        }
        check.keeps("the last line of the last order", 59, Scenes::full, x -> x.lineOf(19, 2));
        check.keeps("behind the last line of the last order", -1, Scenes::full, x -> x.lineOf(19, 3));
    }

    private static void ordersThatThereAre() {
        check.refusesOutside("lineOf of order", Check.NO_SUCH, 0, 1, Promise15LineOfTest::twoOrders,
                (x, v) -> x.lineOf(v, 0));
        check.refusesOutside("lineOf of order, when full,", Check.NO_SUCH, 0, 19, Scenes::full,
                (x, v) -> x.lineOf(v, 0));
    }

    private static void belowZero() {
        for (int i : new int[] {-1, -2, Integer.MIN_VALUE + 1, Integer.MIN_VALUE}) {
            check.refuses("lineOf(0, " + i + ")", Check.ARGUMENT, Promise15LineOfTest::twoOrders,
                    x -> x.lineOf(0, i));
            check.refuses("lineOf(0, " + i + ") when MERGED", Check.ARGUMENT,
                    () -> Scenes.atPhase(Scenes.MERGED), x -> x.lineOf(0, i));
            check.refuses("lineOf(0, " + i + ") without lines", Check.ARGUMENT,
                    () -> Scenes.orders(1), x -> x.lineOf(0, i));
        }
    }
}
