public final class Promise05PickTest {
    private static final Check check = new Check("promise 5");

    public static void main(String[] args) {
        picksMore();
        refusals();
        phases();
        check.end();
    }

    private static OrderRows3 picking() {
        return Scenes.atPhase(Scenes.PICKING);
    }

    private static OrderRows3 blocked() {
        OrderRows3 x = picking();
        x.block(0, 7, true);
        return x;
    }

    private static OrderRows3 cancelledBesideLive() {
        OrderRows3 x = new OrderRows3();
        x.order(0, 1, 1, 0);
        x.line(0, 1, 5, 4);
        x.line(0, 1, 5, 4);
        x.hold(0, 5);
        x.goOn(0);
        x.goOn(0);
        x.cancel(0);
        return x;
    }

    private static void picksMore() {
        OrderRows3 x = picking();
        int version = x.told(0, 7);
        check.due("pick(0, 1)", 1, x.pick(0, 1));
        check.due("pick(0, 5)", 6, x.pick(0, 5));
        check.due("version", version + 2, x.told(0, 7));
        check.due("picked", 6, Packed.picked(x.packed(0)));
        check.due("held as before", 6, Packed.held(x.packed(0)));
        check.due("nothing shipped yet", 0, x.count(3));
    }

    private static void refusals() {
        refuses(Check.NO_SUCH, -1, 1);
        refuses(Check.NO_SUCH, 1, 1);
        refuses(Check.NO_SUCH, 1, 0);
        refuses(Check.ARGUMENT, 0, 0);
        refuses(Check.ARGUMENT, 0, 1001);
        refuses(Check.ARGUMENT, 0, Integer.MIN_VALUE);
        refuses(Check.STATE, 0, 7);
        refuses(Check.STATE, 0, 1000);
        check.refuses("a blocked order", Check.STATE, Promise05PickTest::blocked, x -> x.pick(0, 1));
        check.refuses("0 of a blocked order", Check.ARGUMENT, Promise05PickTest::blocked, x -> x.pick(0, 0));
        check.refuses("a cancelled line", Check.STATE, Promise05PickTest::cancelledBesideLive, x -> x.pick(0, 1));
        OrderRows3 x = blocked();
        x.block(0, 7, false);
        check.due("blocked no more", 6, x.pick(0, 6));
    }

    private static void refuses(Class<? extends RuntimeException> due, int line, int n) {
        check.refuses("pick(" + line + ", " + n + ")", due, Promise05PickTest::picking, x -> x.pick(line, n));
    }

    private static void phases() {
        for (int phase = Scenes.OPEN; phase <= Scenes.MERGED; phase++) {
            int at = phase;
            if (at != Scenes.PICKING) {
                check.refuses("pick in phase " + at, Check.STATE, () -> Scenes.atPhase(at), x -> x.pick(0, 1));
                check.refuses("pick of 0 in phase " + at, Check.ARGUMENT,
                        () -> Scenes.atPhase(at), x -> x.pick(0, 0));
            }
        }
    }
}
