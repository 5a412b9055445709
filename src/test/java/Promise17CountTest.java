public final class Promise17CountTest {
    private static final Check check = new Check("promise 17");

    public static void main(String[] args) {
        phases();
        severalOrders();
        otherWhats();
        check.end();
    }

    private static void counts(String what, OrderRows3 x, int... due) {
        for (int k = 0; k < due.length; k++) {
            check.due(what + ": count(" + k + ")", due[k], x.count(k));
        }
    }

    private static void phases() {
        for (int phase = Scenes.OPEN; phase <= Scenes.PACKED; phase++) {
            counts("phase " + phase, Scenes.atPhase(phase), 1, 1, 6, 0);
        }
        counts("GONE", Scenes.atPhase(Scenes.GONE), 1, 1, 0, 6);
        counts("CLOSED", Scenes.atPhase(Scenes.CLOSED), 1, 1, 0, 6);
        counts("CANCELLED", Scenes.atPhase(Scenes.CANCELLED), 1, 1, 0, 0);
        counts("MERGED", Scenes.atPhase(Scenes.MERGED), 2, 1, 6, 0);
    }

    private static void severalOrders() {
        OrderRows3 x = Scenes.atPhase(Scenes.GONE, 7);
        x.backorder(0);
        counts("a backorder", x, 2, 2, 0, 6);
        x.hold(1, 3);
        counts("held for it", x, 2, 2, 3, 6);
        x.order(0, 9, 1, 0);
        x.line(2, 4, 1000, 0);
        x.hold(2, 1000);
        counts("held for another", x, 3, 3, 1003, 6);
        x.goOn(1);
        x.goOn(1);
        x.pick(1, 3);
        x.goOn(1);
        x.goOn(1);
        counts("shipped of two orders", x, 3, 3, 1000, 9);
        x.line(2, 5, 8, 0);
        x.hold(3, 8);
        x.cancel(2);
        counts("cancelled lines hold nothing", x, 3, 4, 8, 9);
    }

    private static void otherWhats() {
        OrderRows3 x = Scenes.atPhase(Scenes.OPEN);
        check.due("count(-1)", -1, x.count(-1));
        check.due("count(4)", -1, x.count(4));
        check.due("count of the least int", -1, x.count(Integer.MIN_VALUE));
        check.due("count of the greatest int", -1, x.count(Integer.MAX_VALUE));
        check.keeps("count(2)", 6, () -> Scenes.atPhase(Scenes.OPEN), y -> y.count(2));
    }
}
