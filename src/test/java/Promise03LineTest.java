public final class Promise03LineTest {
    private static final Check check = new Check("promise 3");

    public static void main(String[] args) {
        numbersAsTheyCome();
        ordersThatThereAre();
        goods();
        wanted();
        rules();
        openAlone();
        blockedToo();
        roomOfOneOrder();
        roomOfAll();
        check.end();
    }

    private static OrderRows3 twoOrders() {
        OrderRows3 x = new OrderRows3();
        x.order(0, 1, 1, 0);
        x.order(0, 2, 1, 0);
        return x;
    }

    private static void numbersAsTheyCome() {
        OrderRows3 x = twoOrders();
        check.due("the first line with the least numbers", 0, x.line(1, 0, 1, 0));
        check.due("the second with the greatest", 1, x.line(0, 15, 1000, 7));
        check.due("the third", 2, x.line(1, 3, 4, 5));
        check.due("lineOf(1, 0)", 0, x.lineOf(1, 0));
        check.due("lineOf(1, 1)", 2, x.lineOf(1, 1));
        check.due("lineOf(0, 0)", 1, x.lineOf(0, 0));
        check.due("packed(2)", 3 | 5 << 9 | 4 << 12 | 1L << 52 | 1L << 54, x.packed(2));
        check.due("version of order 0", 2, x.told(0, 7));
        check.due("version of order 1", 3, x.told(1, 7));
        check.due("count(1)", 3, x.count(1));
    }

    private static void ordersThatThereAre() {
        check.refusesOutside("line of order", Check.NO_SUCH, 0, 1, Promise03LineTest::twoOrders,
                (x, v) -> x.line(v, 0, 1, 0));
        check.tellsInside("line of order", 0, 1, Promise03LineTest::twoOrders, (x, v) -> x.line(v, 0, 1, 0),
                x -> Packed.order(x.packed(0)));
        check.refusesOutside("line of order, when full of orders,", Check.NO_SUCH, 0, 19, Scenes::fullOfOrders,
                (x, v) -> x.line(v, 0, 1, 0));
        check.tellsInside("line of order, when full of orders,", 0, 19, Scenes::fullOfOrders,
                (x, v) -> x.line(v, 0, 1, 0), x -> Packed.order(x.packed(0)));
    }

    private static void goods() {
        check.range("good", 0, 15, Promise03LineTest::twoOrders, (x, v) -> x.line(0, v, 1, 0),
                x -> Packed.good(x.packed(0)));
    }

    private static void wanted() {
        check.range("wanted", 1, 1000, Promise03LineTest::twoOrders, (x, v) -> x.line(0, 0, v, 0),
                x -> Packed.wanted(x.packed(0)));
    }

    private static void rules() {
        check.range("rules", 0, 7, Promise03LineTest::twoOrders, (x, v) -> x.line(0, 0, 1, v),
                x -> Packed.rules(x.packed(0)));
    }

    private static void openAlone() {
        check.answers("a line when OPEN", 1, () -> Scenes.atPhase(Scenes.OPEN), x -> x.line(0, 1, 1, 0));
        for (int phase = Scenes.ALLOCATED; phase <= Scenes.MERGED; phase++) {
            int at = phase;
            check.refuses("a line in phase " + at, Check.STATE, () -> Scenes.atPhase(at), x -> x.line(0, 1, 1, 0));
        }
    }

    private static void blockedToo() {
        check.answers("a line of a blocked order", 0, Scenes.then(Promise03LineTest::twoOrders,
                x -> x.block(0, 3, true)), x -> x.line(0, 1, 1, 1));
    }

    private static void roomOfOneOrder() {
        check.answers("the eighth line", 7, () -> Scenes.linesOfOne(7), x -> x.line(0, 1, 1, 0));
        check.due("eight lines", 8, Scenes.eightLines().told(0, 6));
        check.refuses("a ninth line", Check.NO_ROOM, Scenes::eightLines, x -> x.line(0, 1, 1, 0));
        check.refuses("a ninth line beside a cancelled one", Check.NO_ROOM,
                Scenes.then(Scenes::eightLines, x -> x.cancel(3)), x -> x.line(0, 1, 1, 0));
        check.answers("the first line of another order", 8,
                Scenes.then(Scenes::eightLines, x -> x.order(0, 2, 1, 0)), x -> x.line(1, 1, 1, 0));
    }

    private static void roomOfAll() {
        check.answers("the 60th line", 59, () -> Scenes.lines(59), x -> x.line(7, 1, 1, 0));
        OrderRows3 full = Scenes.fullOfLines();
        check.due("sixty lines", 60, full.count(1));
        check.due("the last line's order", 7, Packed.order(full.packed(59)));
        check.refuses("the 61st line", Check.NO_ROOM, Scenes::fullOfLines, x -> x.line(7, 1, 1, 0));
        check.refuses("the 61st line beside a cancelled one", Check.NO_ROOM,
                Scenes.then(Scenes::fullOfLines, x -> x.cancel(59)), x -> x.line(7, 1, 1, 0));
        check.refuses("the 61st line, of an order without lines", Check.NO_ROOM,
                Scenes.then(Scenes::fullOfLines, x -> x.order(0, 9, 1, 0)), x -> x.line(8, 1, 1, 0));
    }
}
