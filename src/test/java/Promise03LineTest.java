public final class Promise03LineTest {
    private static final Check check = new Check("promise 3");

    public static void main(String[] args) {
        numbersAsTheyCome();
        ranges();
        openAlone();
        room();
        firstRefusal();
        check.end();
    }

    private static OrderRows3 twoOrders() {
        OrderRows3 x = new OrderRows3();
        x.order(0, 1, 1, 0);
        x.order(0, 2, 1, 0);
        return x;
    }

    private static void numbersAsTheyCome() {
        OrderRows3 x = twoOrders();
        check.due("the first line with the least numbers", 0, x.line(1, 0, 1, 0));
        check.due("the second with the greatest", 1, x.line(0, 15, 1000, 7));
        check.due("the third", 2, x.line(1, 3, 4, 5));
        check.due("lineOf(1, 0)", 0, x.lineOf(1, 0));
        check.due("lineOf(1, 1)", 2, x.lineOf(1, 1));
        check.due("lineOf(0, 0)", 1, x.lineOf(0, 0));
        check.due("packed(2)", 3 | 5 << 9 | 4 << 12 | 1L << 52 | 1L << 54, x.packed(2));
        check.due("version of order 0", 2, x.told(0, 7));
        check.due("version of order 1", 3, x.told(1, 7));
        check.due("count(1)", 3, x.count(1));
        x.block(0, 3, true);
        check.due("a line of a blocked order", 3, x.line(0, 1, 1, 1));
    }

    private static void ranges() {
        refuses(Check.NO_SUCH, -1, 0, 1, 0);
        refuses(Check.NO_SUCH, 2, 0, 1, 0);
        refuses(Check.NO_SUCH, Integer.MAX_VALUE, 0, 1, 0);
        refuses(Check.ARGUMENT, 0, -1, 1, 0);
        refuses(Check.ARGUMENT, 0, 16, 1, 0);
        refuses(Check.ARGUMENT, 0, 0, 0, 0);
        refuses(Check.ARGUMENT, 0, 0, 1001, 0);
        refuses(Check.ARGUMENT, 0, 0, 1, -1);
        refuses(Check.ARGUMENT, 0, 0, 1, 8);
    }

    private static void refuses(Class<? extends RuntimeException> due, int order, int good, int wanted, int rules) {
        check.refuses("line(" + order + ", " + good + ", " + wanted + ", " + rules + ")", due,
                Promise03LineTest::twoOrders, x -> x.line(order, good, wanted, rules));
    }

    private static void openAlone() {
        for (int phase = Scenes.ALLOCATED; phase <= Scenes.MERGED; phase++) {
            int at = phase;
            check.refuses("a line in phase " + at, Check.STATE, () -> Scenes.atPhase(at), x -> x.line(0, 1, 1, 0));
        }
    }

    private static void room() {
        OrderRows3 x = Scenes.eightLines();
        check.due("eight lines", 8, x.told(0, 6));
        check.refuses("a ninth line", Check.NO_ROOM, Scenes::eightLines, y -> y.line(0, 1, 1, 0));
        check.refuses("a ninth line beside a cancelled one", Check.NO_ROOM, Promise03LineTest::eightWithCancelled,
                y -> y.line(0, 1, 1, 0));
        OrderRows3 full = Scenes.fullOfLines();
        check.due("sixty lines", 60, full.count(1));
        check.due("the last line's order", 7, Packed.order(full.packed(59)));
        check.refuses("the 61st line", Check.NO_ROOM, Scenes::fullOfLines, y -> y.line(7, 1, 1, 0));
    }

    private static OrderRows3 eightWithCancelled() {
        OrderRows3 x = Scenes.eightLines();
        x.cancel(3);
        return x;
    }

    private static OrderRows3 eightLinesAllocated() {
        OrderRows3 x = Scenes.eightLines();
        for (int line = 0; line < 8; line++) {
            x.hold(line, 5);
        }
        x.goOn(0);
        return x;
    }

    private static void firstRefusal() {
        refuses(Check.NO_SUCH, 2, 16, 0, 8);
        check.refuses("a wrong good in phase 1", Check.ARGUMENT,
                () -> Scenes.atPhase(Scenes.ALLOCATED), x -> x.line(0, 16, 1, 0));
        check.refuses("nothing wanted in phase 1", Check.ARGUMENT,
                () -> Scenes.atPhase(Scenes.ALLOCATED), x -> x.line(0, 1, 0, 0));
        check.refuses("wrong rules in phase 1", Check.ARGUMENT,
                () -> Scenes.atPhase(Scenes.ALLOCATED), x -> x.line(0, 1, 1, 8));
        check.refuses("a wrong line of a full order", Check.ARGUMENT, Scenes::eightLines, x -> x.line(0, 1, 1, 8));
        check.refuses("a ninth line in phase 1", Check.STATE,
                Promise03LineTest::eightLinesAllocated, x -> x.line(0, 1, 1, 0));
    }
}
