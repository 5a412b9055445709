public final class Promise11BlockTest {
    private static final Check check = new Check("promise 11");

    public static void main(String[] args) {
        blocks();
        ordersThatThereAre();
        persons();
        itIsSo();
        goneOrFurther();
        check.end();
    }

    private static OrderRows3 open() {
        return Scenes.atPhase(Scenes.OPEN);
    }

    private static OrderRows3 blockedByAll() {
        OrderRows3 x = open();
        for (int person = 0; person < 8; person++) {
            x.block(0, person, true);
        }
        return x;
    }

    private static void blocks() {
        OrderRows3 x = open();
        int version = x.told(0, 7);
        for (int person = 0; person < 8; person++) {
            check.due("block by " + person, person + 1, x.block(0, person, true));
            check.due("bits", (2 << person) - 1, x.told(0, 5));
        }
        check.due("person 3 no more", 7, x.block(0, 3, false));
        check.due("bits without 3", 255 - 8, x.told(0, 5));
        check.due("version", version + 9, x.told(0, 7));
        check.due("person 3 again", 8, x.block(0, 3, true));
        for (int person = 0; person < 8; person++) {
            check.due("no more by " + person, 7 - person, x.block(0, person, false));
        }
        check.due("no bits", 0, x.told(0, 5));
    }

    private static void ordersThatThereAre() {
        for (int k = 0; k < 2; k++) {
            boolean on = k == 0;
            check.refusesOutside("block " + on + " of order", Check.NO_SUCH, 0, 0, Promise11BlockTest::open,
                    (x, v) -> x.block(v, 0, on));
            check.refusesOutside("block " + on + " of order, when full of orders,", Check.NO_SUCH, 0, 19,
                    Scenes::fullOfOrders, (x, v) -> x.block(v, 0, on));
        }
        OrderRows3 x = Scenes.fullOfOrders();
        check.due("the last of 20 orders", 1, x.block(19, 7, true));
        check.due("the bits there", 128, x.told(19, 5));
        check.due("the bits of the order before", 0, x.told(18, 5));
    }

    /** Persons whose bits would be those of 0 to 7 again are no persons. */
    private static void persons() {
        check.range("person", 0, 7, Promise11BlockTest::open, (x, v) -> x.block(0, v, true),
                x -> Integer.numberOfTrailingZeros(x.told(0, 5)));
        check.refusesOutside("no more by person", Check.ARGUMENT, 0, 7, Promise11BlockTest::blockedByAll,
                (x, v) -> x.block(0, v, false));
        for (int person : new int[] {-32, -25, 31, 32, 39, 64}) {
            check.refuses("person " + person, Check.ARGUMENT, Promise11BlockTest::open,
                    x -> x.block(0, person, true));
            check.refuses("no more by person " + person, Check.ARGUMENT, Promise11BlockTest::blockedByAll,
                    x -> x.block(0, person, false));
        }
    }

    private static void itIsSo() {
        for (int person = 0; person < 8; person++) {
            int who = person;
            check.refuses("blocked by " + who + " before", Check.STATE,
                    Scenes.then(Promise11BlockTest::open, x -> x.block(0, who, true)), x -> x.block(0, who, true));
            check.refuses("not blocked by " + who + " before", Check.STATE, Promise11BlockTest::open,
                    x -> x.block(0, who, false));
            check.refuses("blocked by " + who + " no more", Check.STATE,
                    Scenes.then(Promise11BlockTest::blockedByAll, x -> x.block(0, who, false)),
                    x -> x.block(0, who, false));
            check.refuses("blocked by all, and by " + who, Check.STATE, Promise11BlockTest::blockedByAll,
                    x -> x.block(0, who, true));
        }
    }

    private static void goneOrFurther() {
        for (int phase = Scenes.OPEN; phase <= Scenes.PACKED; phase++) {
            OrderRows3 x = Scenes.atPhase(phase);
            check.due("block in phase " + phase, 1, x.block(0, 7, true));
            check.due("and no more", 0, x.block(0, 7, false));
        }
        for (int phase = Scenes.GONE; phase <= Scenes.MERGED; phase++) {
            int at = phase;
            check.refuses("block in phase " + at, Check.STATE, () -> Scenes.atPhase(at), x -> x.block(0, 7, true));
            check.refuses("no more block in phase " + at, Check.STATE,
                    () -> Scenes.atPhase(at), x -> x.block(0, 7, false));
        }
        check.refuses("no more, when CANCELLED", Check.STATE,
                Scenes.then(Promise11BlockTest::open, x -> x.block(0, 1, true) + x.cancel(0)),
                x -> x.block(0, 1, false));
    }
}
