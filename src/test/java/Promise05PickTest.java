public final class Promise05PickTest {
    private static final Check check = new Check("promise 5");

    public static void main(String[] args) {
        picksMore();
        linesThatThereAre();
        pieces();
        pickingAlone();
        blocked();
        notAboveHeld();
        cancelledLine();
        check.end();
    }

    private static OrderRows3 picking() {
        return Scenes.atPhase(Scenes.PICKING);
    }

    private static OrderRows3 pickingThousand() {
        OrderRows3 x = Scenes.wants(1000, 0);
        x.hold(0, 1000);
        x.goOn(0);
        x.goOn(0);
        return x;
    }

    private static void picksMore() {
        OrderRows3 x = picking();
        int version = x.told(0, 7);
        check.due("pick(0, 1)", 1, x.pick(0, 1));
        check.due("pick(0, 5)", 6, x.pick(0, 5));
        check.due("version", version + 2, x.told(0, 7));
        check.due("picked", 6, Packed.picked(x.packed(0)));
        check.due("held as before", 6, Packed.held(x.packed(0)));
        check.due("nothing shipped yet", 0, x.count(3));
    }

    private static void linesThatThereAre() {
        check.refusesOutside("pick of line", Check.NO_SUCH, 0, 0, Promise05PickTest::picking,
                (x, v) -> x.pick(v, 1));
        check.refusesOutside("pick of line, when full of lines,", Check.NO_SUCH, 0, 59,
                Promise05PickTest::fullAndPicking, (x, v) -> x.pick(v, 1));
        check.answers("pick of the last line", 60, Promise05PickTest::fullAndPicking, x -> x.pick(59, 60));
    }

    /** Order 19 is PICKING, and of its lines the last one holds all of 60. */
    private static OrderRows3 fullAndPicking() {
        OrderRows3 x = Scenes.full();
        x.hold(59, 60);
        x.goOn(19);
        x.goOn(19);
        return x;
    }

    private static void pieces() {
        check.range("pieces picked", 1, 1000, Promise05PickTest::pickingThousand, (x, v) -> x.pick(0, v),
                x -> Packed.picked(x.packed(0)));
    }

    private static void pickingAlone() {
        for (int phase = Scenes.OPEN; phase <= Scenes.MERGED; phase++) {
            int at = phase;
            if (at != Scenes.PICKING) {
                check.refuses("pick in phase " + at, Check.STATE, () -> Scenes.atPhase(at), x -> x.pick(0, 1));
            }
        }
    }

    private static void blocked() {
        for (int person = 0; person < 8; person++) {
            int who = person;
            check.refuses("blocked by " + who, Check.STATE,
                    Scenes.then(Promise05PickTest::picking, x -> x.block(0, who, true)), x -> x.pick(0, 1));
        }
        Check.Scene byTwo = Scenes.then(Promise05PickTest::picking, x -> x.block(0, 0, true) + x.block(0, 7, true));
        Check.Scene byOne = Scenes.then(byTwo, x -> x.block(0, 0, false));
        check.refuses("blocked by one still", Check.STATE, byOne, x -> x.pick(0, 1));
        check.answers("blocked no more", 6, Scenes.then(byOne, x -> x.block(0, 7, false)), x -> x.pick(0, 6));
    }

    private static void notAboveHeld() {
        check.answers("all of 6", 6, Promise05PickTest::picking, x -> x.pick(0, 6));
        check.refuses("7 of 6, where 10 are wanted", Check.STATE, Promise05PickTest::picking, x -> x.pick(0, 7));
        check.refuses("1000 of 6", Check.STATE, Promise05PickTest::picking, x -> x.pick(0, 1000));
        Check.Scene some = Scenes.then(Promise05PickTest::picking, x -> x.pick(0, 5));
        check.answers("5 and 1 of 6", 6, some, x -> x.pick(0, 1));
        check.refuses("5 and 2 of 6", Check.STATE, some, x -> x.pick(0, 2));
        Check.Scene all = Scenes.then(Promise05PickTest::pickingThousand, x -> x.pick(0, 1000));
        check.refuses("1 above 1000", Check.STATE, all, x -> x.pick(0, 1));
        check.refuses("1000 above 1000", Check.STATE, all, x -> x.pick(0, 1000));
        check.refuses("1 where nothing is held", Check.STATE,
                () -> Scenes.cancelledBesideLive(Scenes.PICKING), x -> x.pick(1, 1));
    }

    private static void cancelledLine() {
        check.refuses("a line cancelled before", Check.STATE,
                () -> Scenes.cancelledBesideLive(Scenes.PICKING), x -> x.pick(0, 1));
        OrderRows3 x = picking();
        check.due("a live line", 1, x.pick(0, 1));
        check.refuses("a line cancelled while picked", Check.STATE,
                Scenes.then(Scenes::pickingTwoLines, y -> y.cancel(0)), y -> y.pick(0, 1));
    }
}
