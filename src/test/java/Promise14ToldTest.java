public final class Promise14ToldTest {
    private static final Check check = new Check("promise 14");

    public static void main(String[] args) {
        whole();
        phases();
        shortPieces();
        greatestShort();
        mergedInto();
        ordersThatThereAre();
        whats();
        check.end();
    }

    private static void told(OrderRows3 x, int order, int... due) {
        for (int what = 0; what < due.length; what++) {
            check.due("told(" + order + ", " + what + ")", due[what], x.told(order, what));
        }
    }

    private static void whole() {
        OrderRows3 x = new OrderRows3();
        x.order(6, 4321, 8, 900);
        x.order(7, 99999, 9, 10000);
        told(x, 0, 0, 6, 4321, 8, 900, 0, 0, 1, -1, 0);
        told(x, 1, 0, 7, 99999, 9, 10000, 0, 0, 1, -1, 0);
        x.line(1, 1, 5, 0);
        x.line(1, 2, 5, 0);
        x.cancel(0);
        x.block(1, 0, true);
        x.block(1, 7, true);
        told(x, 1, 0, 7, 99999, 9, 10000, 129, 2, 6, -1, 0);
        told(x, 0, 0, 6, 4321, 8, 900, 0, 0, 1, -1, 0);
    }

    private static void phases() {
        int[] versions = {3, 4, 5, 7, 8, 9, 4, 4};
        for (int phase = Scenes.OPEN; phase <= Scenes.MERGED; phase++) {
            int lines = phase == Scenes.MERGED ? 0 : 1;
            int into = phase == Scenes.MERGED ? 1 : -1;
            int missing = phase == Scenes.GONE || phase == Scenes.CLOSED ? 4 : 0;
            told(Scenes.atPhase(phase), 0, phase, 3, 50, 4, 70, 0, lines, versions[phase], into, missing);
        }
    }

    private static void shortPieces() {
        OrderRows3 x = new OrderRows3();
        x.order(0, 1, 1, 0);
        x.line(0, 1, 1000, 4);
        x.line(0, 2, 7, 1);
        x.line(0, 3, 9, 4);
        x.line(0, 4, 2, 0);
        x.hold(1, 3);
        x.hold(3, 2);
        x.goOn(0);
        x.goOn(0);
        x.cancel(2);
        x.pick(1, 3);
        x.pick(3, 2);
        x.goOn(0);
        check.due("short when PACKED", 0, x.told(0, 9));
        x.goOn(0);
        check.due("short of the live lines, for BACKORDER or not", 1004, x.told(0, 9));
        x.backorder(0);
        check.due("short when backordered", 1004, x.told(0, 9));
        x.goOn(0);
        check.due("short when CLOSED", 1004, x.told(0, 9));
    }

    private static void greatestShort() {
        OrderRows3 x = new OrderRows3();
        x.order(0, 1, 1, 0);
        for (int k = 0; k < 8; k++) {
            x.line(0, k, 1000, 4);
        }
        for (int phase = Scenes.OPEN; phase < Scenes.GONE; phase++) {
            check.due("short in phase " + phase, 0, x.told(0, 9));
            x.goOn(0);
        }
        check.due("short of eight lines", 8000, x.told(0, 9));
    }

    /** Order 0 may be the one into which another was merged. */
    private static void mergedInto() {
        OrderRows3 x = Scenes.full();
        check.due("not merged", -1, x.told(4, 8));
        x.join(0, 4);
        x.join(19, 15);
        check.due("merged into the first", 0, x.told(4, 8));
        check.due("merged into the last", 19, x.told(15, 8));
        check.due("the first is not merged", -1, x.told(0, 8));
    }

    private static void ordersThatThereAre() {
        for (int what = 0; what < 10; what++) {
            int at = what;
            check.refusesOutside("told " + what + " of order", Check.NO_SUCH, 0, 0,
                    () -> Scenes.atPhase(Scenes.OPEN), (x, v) -> x.told(v, at));
        }
        check.refusesOutside("told of order, when full of orders,", Check.NO_SUCH, 0, 19, Scenes::fullOfOrders,
                (x, v) -> x.told(v, 0));
        check.keeps("the own number of the first of 20", 100, Scenes::fullOfOrders, x -> x.told(0, 2));
        check.keeps("the own number of the last of 20", 119, Scenes::fullOfOrders, x -> x.told(19, 2));
    }

    private static void whats() {
        for (int phase = Scenes.OPEN; phase <= Scenes.MERGED; phase++) {
            int at = phase;
            check.refusesOutside("in phase " + phase + " told", Check.ARGUMENT, 0, 9,
                    () -> Scenes.atPhase(at), (x, v) -> x.told(0, v));
        }
        check.keeps("told(0, 0)", 0, () -> Scenes.atPhase(Scenes.OPEN), x -> x.told(0, 0));
        check.keeps("told(0, 9)", 4, () -> Scenes.atPhase(Scenes.GONE), x -> x.told(0, 9));
    }
}
