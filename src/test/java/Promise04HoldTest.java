public final class Promise04HoldTest {
    private static final Check check = new Check("promise 4");

    public static void main(String[] args) {
        holdsMore();
        refusals();
        phases();
        check.end();
    }

    private static OrderRows3 oneLine() {
        OrderRows3 x = new OrderRows3();
        x.order(0, 1, 1, 0);
        x.line(0, 1, 10, 1);
        return x;
    }

    private static OrderRows3 cancelledBesideLive() {
        OrderRows3 x = oneLine();
        x.line(0, 2, 10, 1);
        x.cancel(0);
        return x;
    }

    private static void holdsMore() {
        OrderRows3 x = oneLine();
        check.due("hold(0, 1)", 1, x.hold(0, 1));
        check.due("hold(0, 4)", 5, x.hold(0, 4));
        check.due("version", 4, x.told(0, 7));
        check.due("count(2)", 5, x.count(2));
        check.due("held", 5, Packed.held(x.packed(0)));
        check.due("all that is wanted", 10, x.hold(0, 5));
        OrderRows3 large = new OrderRows3();
        large.order(0, 1, 1, 0);
        large.line(0, 1, 1000, 0);
        check.due("hold(0, 1000)", 1000, large.hold(0, 1000));
        check.due("a thousand held", 1000, Packed.held(large.packed(0)));
    }

    private static void refusals() {
        refuses(Check.NO_SUCH, -1, 1);
        refuses(Check.NO_SUCH, 1, 1);
        refuses(Check.NO_SUCH, 1, 0);
        refuses(Check.ARGUMENT, 0, 0);
        refuses(Check.ARGUMENT, 0, -1);
        refuses(Check.ARGUMENT, 0, 1001);
        refuses(Check.ARGUMENT, 0, Integer.MAX_VALUE);
        refuses(Check.STATE, 0, 11);
        refuses(Check.STATE, 0, 1000);
        check.refuses("one above what is wanted", Check.STATE, () -> Scenes.atPhase(Scenes.OPEN), x -> x.hold(0, 5));
        check.refuses("a cancelled line", Check.STATE, Promise04HoldTest::cancelledBesideLive, x -> x.hold(0, 1));
        check.refuses("0 for a cancelled line", Check.ARGUMENT,
                Promise04HoldTest::cancelledBesideLive, x -> x.hold(0, 0));
    }

    private static void refuses(Class<? extends RuntimeException> due, int line, int n) {
        check.refuses("hold(" + line + ", " + n + ")", due, Promise04HoldTest::oneLine, x -> x.hold(line, n));
    }

    private static void phases() {
        OrderRows3 x = Scenes.atPhase(Scenes.ALLOCATED);
        check.due("ALLOCATED", 10, x.hold(0, 4));
        OrderRows3 blocked = Scenes.atPhase(Scenes.OPEN);
        blocked.block(0, 2, true);
        check.due("blocked", 7, blocked.hold(0, 1));
        OrderRows3 merged = Scenes.atPhase(Scenes.MERGED);
        check.due("a line that came to another order", 7, merged.hold(0, 1));
        check.due("the version there", 3, merged.told(1, 7));
        check.due("the merged one's version", 4, merged.told(0, 7));
        for (int phase = Scenes.PICKING; phase <= Scenes.CANCELLED; phase++) {
            int at = phase;
            check.refuses("hold in phase " + at, Check.STATE, () -> Scenes.atPhase(at), y -> y.hold(0, 1));
            check.refuses("hold of 0 in phase " + at, Check.ARGUMENT, () -> Scenes.atPhase(at), y -> y.hold(0, 0));
        }
    }
}
