public final class Promise16PackedTest {
    private static final Check check = new Check("promise 16");

    public static void main(String[] args) {
        everyPart();
        greatestParts();
        leastParts();
        alongTheWay();
        linesThatThereAre();
        check.end();
    }

    private static void parts(String what, long packed, long... due) {
        long[] got = {Packed.good(packed), Packed.insteadAndOne(packed), Packed.rules(packed), Packed.wanted(packed),
            Packed.held(packed), Packed.picked(packed), Packed.shipped(packed), Packed.live(packed),
            Packed.backordered(packed), Packed.order(packed), packed >>> 59};
        for (int k = 0; k < due.length; k++) {
            check.due(what + ", part " + k, due[k], got[k]);
        }
        check.due(what + ", bits above", 0, got[10]);
    }

    private static void everyPart() {
        OrderRows3 x = new OrderRows3();
        x.order(0, 1, 1, 0);
        x.order(0, 2, 1, 0);
        x.line(1, 11, 900, 7);
        x.change(0, 1, 6);
        x.hold(0, 700);
        x.goOn(1);
        x.goOn(1);
        x.pick(0, 500);
        parts("while picked", x.packed(0), 11, 7, 7, 900, 700, 500, 0, 1, 0, 1);
        x.pick(0, 200);
        x.goOn(1);
        x.goOn(1);
        parts("when GONE", x.packed(0), 11, 7, 7, 900, 700, 700, 700, 1, 0, 1);
        x.backorder(0);
        parts("when backordered", x.packed(0), 11, 7, 7, 900, 700, 700, 700, 1, 1, 1);
        parts("the backorder", x.packed(1), 11, 0, 7, 200, 0, 0, 0, 1, 0, 2);
    }

    private static void greatestParts() {
        OrderRows3 x = Scenes.fullOfOrders();
        x.line(19, 15, 1000, 7);
        x.change(0, 1, 14);
        x.hold(0, 1000);
        x.goOn(19);
        x.goOn(19);
        x.pick(0, 1000);
        x.goOn(19);
        x.goOn(19);
        long due = 15 | 15 << 4 | 7 << 9 | 1000 << 12 | 1000L << 22 | 1000L << 32 | 1000L << 42 | 1L << 52 | 19L << 54;
        check.due("all at their greatest", due, x.packed(0));
    }

    private static void leastParts() {
        OrderRows3 x = new OrderRows3();
        x.order(0, 1, 1, 0);
        x.line(0, 0, 1, 0);
        check.due("all at their least", 1 << 12 | 1L << 52, x.packed(0));
        x.change(0, 2, 2);
        x.change(0, 1, 1);
        check.due("good 1 instead of 0", 2 << 4 | 2 << 9 | 1 << 12 | 1L << 52, x.packed(0));
        x.cancel(0);
        check.due("cancelled", 2 << 4 | 2 << 9, x.packed(0));
        OrderRows3 zero = new OrderRows3();
        zero.order(0, 1, 1, 0);
        zero.line(0, 1, 1, 2);
        zero.change(0, 1, 0);
        check.due("good 0 instead of 1", 1 | 1 << 4 | 2 << 9 | 1 << 12 | 1L << 52, zero.packed(0));
    }

    private static void alongTheWay() {
        OrderRows3 x = Scenes.atPhase(Scenes.OPEN);
        parts("OPEN", x.packed(0), 2, 0, 3, 10, 6, 0, 0, 1, 0, 0);
        x.change(0, 1, 15);
        parts("good 15 instead", x.packed(0), 2, 16, 3, 10, 6, 0, 0, 1, 0, 0);
        x.cancel(0);
        parts("cancelled", x.packed(0), 2, 16, 3, 0, 0, 0, 0, 0, 0, 0);
        parts("MERGED", Scenes.atPhase(Scenes.MERGED).packed(0), 2, 0, 3, 10, 6, 0, 0, 1, 0, 1);
        parts("PACKED", Scenes.atPhase(Scenes.PACKED).packed(0), 2, 0, 3, 10, 6, 6, 0, 1, 0, 0);
        parts("CLOSED", Scenes.atPhase(Scenes.CLOSED).packed(0), 2, 0, 3, 10, 6, 6, 6, 1, 0, 0);
    }

    private static void linesThatThereAre() {
        check.refusesOutside("packed of line", Check.NO_SUCH, 0, 0, () -> Scenes.atPhase(Scenes.OPEN),
                (x, v) -> x.packed(v));
        check.refusesOutside("packed of line, when there is an order without lines,", Check.NO_SUCH, 0, -1,
                () -> Scenes.orders(1), (x, v) -> x.packed(v));
        check.refusesOutside("packed of line, when full,", Check.NO_SUCH, 0, 59, Scenes::full, (x, v) -> x.packed(v));
        OrderRows3 x = Scenes.full();
        for (int line = 0; line < 60; line++) {
            parts("line " + line, x.packed(line), line % 16, 0, 4, 1 + line, 0, 0, 0, 1, 0, line % 20);
        }
    }
}
