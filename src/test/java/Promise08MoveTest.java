public final class Promise08MoveTest {
    private static final Check check = new Check("promise 8");

    public static void main(String[] args) {
        moves();
        blockedToo();
        ordersThatThereAre();
        days();
        goneOrFurther();
        check.end();
    }

    private static long ask(OrderRows3 x, int order, int day) {
        return x.move(order, day) ? 1 : 0;
    }

    private static void moves() {
        for (int phase = Scenes.OPEN; phase <= Scenes.PACKED; phase++) {
            OrderRows3 x = Scenes.atPhase(phase);
            int version = x.told(0, 7);
            check.due("day 0 in phase " + phase, 1, ask(x, 0, 0));
            check.due("the day then", 0, x.told(0, 4));
            check.due("day 10000 in phase " + phase, 1, ask(x, 0, 10000));
            check.due("the last day then", 10000, x.told(0, 4));
            check.due("the same day again", 1, ask(x, 0, 10000));
            check.due("version", version + 3, x.told(0, 7));
            check.due("phase as before", phase, x.told(0, 0));
        }
    }

    private static void blockedToo() {
        check.answers("a blocked order", 1,
                Scenes.then(() -> Scenes.atPhase(Scenes.OPEN), x -> x.block(0, 1, true)), x -> ask(x, 0, 3));
    }

    private static void ordersThatThereAre() {
        check.refusesOutside("move of order", Check.NO_SUCH, 0, 0, () -> Scenes.atPhase(Scenes.OPEN),
                (x, v) -> ask(x, v, 5));
        check.refusesOutside("move of order, when full of orders,", Check.NO_SUCH, 0, 19, Scenes::fullOfOrders,
                (x, v) -> ask(x, v, 5));
        OrderRows3 x = Scenes.fullOfOrders();
        check.due("the last of 20 orders", 1, ask(x, 19, 9999));
        check.due("the day there", 9999, x.told(19, 4));
        check.due("the day of the order before", 18, x.told(18, 4));
    }

    private static void days() {
        for (int phase = Scenes.OPEN; phase <= Scenes.PACKED; phase++) {
            int at = phase;
            check.range("day in phase " + at, 0, 10000, () -> Scenes.atPhase(at), (x, v) -> ask(x, 0, v),
                    x -> x.told(0, 4));
        }
    }

    private static void goneOrFurther() {
        check.answers("move when PACKED", 1, () -> Scenes.atPhase(Scenes.PACKED), x -> ask(x, 0, 5));
        for (int phase = Scenes.GONE; phase <= Scenes.MERGED; phase++) {
            int at = phase;
            check.keeps("move in phase " + at, 0, () -> Scenes.atPhase(at), x -> ask(x, 0, 5));
            check.keeps("move to its own day in phase " + at, 0, () -> Scenes.atPhase(at), x -> ask(x, 0, 70));
        }
    }
}
