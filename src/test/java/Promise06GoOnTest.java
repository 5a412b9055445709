public final class Promise06GoOnTest {
    private static final Check check = new Check("promise 6");

    public static void main(String[] args) {
        wholeWay();
        fromOpen();
        fromOpenWithCancelledLine();
        fromPicking();
        fromPacked();
        fromGone();
        blocked();
        refusals();
        check.end();
    }

    private static void wholeWay() {
        OrderRows3 x = Scenes.atPhase(Scenes.OPEN);
        int version = x.told(0, 7);
        check.due("to ALLOCATED", 1, x.goOn(0));
        check.due("to PICKING", 2, x.goOn(0));
        check.due("version", version + 2, x.told(0, 7));
        x.pick(0, 6);
        check.due("to PACKED", 3, x.goOn(0));
        check.due("to GONE", 4, x.goOn(0));
        check.due("to CLOSED", 5, x.goOn(0));
        check.due("phase", 5, x.told(0, 0));
        check.due("version at the end", version + 6, x.told(0, 7));
    }

    private static OrderRows3 open(int rules, int wanted, int held) {
        OrderRows3 x = new OrderRows3();
        x.order(0, 1, 1, 0);
        x.line(0, 1, wanted, rules);
        if (held > 0) {
            x.hold(0, held);
        }
        return x;
    }

    private static void fromOpen() {
        check.keeps("without a line", -1, Promise06GoOnTest::withoutLine, x -> x.goOn(0));
        for (int rules = 0; rules < 8; rules++) {
            boolean partial = (rules & 1) != 0;
            boolean backorder = (rules & 4) != 0;
            opens(rules, 0, backorder);
            opens(rules, 1, partial || backorder);
            opens(rules, 9, partial || backorder);
            opens(rules, 10, true);
        }
        check.keeps("one line of two ready", -1, () -> secondLine(0), x -> x.goOn(0));
        check.due("both lines ready", 1, secondLine(4).goOn(0));
    }

    private static OrderRows3 withoutLine() {
        OrderRows3 x = new OrderRows3();
        x.order(0, 1, 1, 0);
        return x;
    }

    private static void opens(int rules, int held, boolean goes) {
        String what = "rules " + rules + ", held " + held + " of 10";
        if (goes) {
            check.due(what, 1, open(rules, 10, held).goOn(0));
        } else {
            check.keeps(what, -1, () -> open(rules, 10, held), x -> x.goOn(0));
        }
    }

    private static OrderRows3 secondLine(int rules) {
        OrderRows3 x = open(0, 10, 10);
        x.line(0, 2, 3, rules);
        return x;
    }

    private static void fromOpenWithCancelledLine() {
        OrderRows3 x = secondLine(0);
        x.cancel(1);
        check.due("a cancelled line beside a ready one", 1, x.goOn(0));
    }

    private static OrderRows3 pickingTwoLines() {
        OrderRows3 x = open(0, 10, 10);
        x.line(0, 2, 3, 0);
        x.hold(1, 3);
        x.goOn(0);
        x.goOn(0);
        x.pick(0, 10);
        return x;
    }

    private static void fromPicking() {
        check.keeps("the only line not picked", -1, () -> Scenes.atPhase(Scenes.PICKING), x -> x.goOn(0));
        check.keeps("one line of two not picked", -1, Promise06GoOnTest::pickingTwoLines, x -> x.goOn(0));
        OrderRows3 some = pickingTwoLines();
        some.pick(1, 2);
        check.due("all but one piece picked", -1, some.goOn(0));
        some.pick(1, 1);
        check.due("all picked", 3, some.goOn(0));
        OrderRows3 cancelled = pickingTwoLines();
        cancelled.cancel(1);
        check.due("a cancelled line beside a picked one", 3, cancelled.goOn(0));
        OrderRows3 nothing = open(4, 10, 0);
        nothing.goOn(0);
        nothing.goOn(0);
        check.due("nothing held, nothing picked", 3, nothing.goOn(0));
    }

    private static void fromPacked() {
        OrderRows3 x = Scenes.atPhase(Scenes.PACKED);
        check.due("shipped before", 0, Packed.shipped(x.packed(0)));
        check.due("short before", 0, x.told(0, 9));
        check.due("to GONE", 4, x.goOn(0));
        check.due("shipped then", 6, Packed.shipped(x.packed(0)));
        check.due("picked then", 6, Packed.picked(x.packed(0)));
        check.due("held then", 6, Packed.held(x.packed(0)));
        check.due("short then", 4, x.told(0, 9));
        check.due("count(3)", 6, x.count(3));
    }

    private static OrderRows3 gone(int rules) {
        return Scenes.atPhase(Scenes.GONE, rules);
    }

    private static void fromGone() {
        check.due("short, not for BACKORDER", 5, gone(3).goOn(0));
        check.keeps("short and for BACKORDER", -1, () -> gone(5), x -> x.goOn(0));
        OrderRows3 x = gone(5);
        x.backorder(0);
        check.due("backordered", 5, x.goOn(0));
        check.due("for BACKORDER, not short", 5, nothingShort().goOn(0));
        check.keeps("one of two backordered", -1, Promise06GoOnTest::oneOfTwoBackordered, y -> y.goOn(0));
        OrderRows3 both = oneOfTwoBackordered();
        both.backorder(1);
        check.due("both backordered", 5, both.goOn(0));
        check.due("a cancelled line for BACKORDER", 5, goneWithCancelledLine().goOn(0));
    }

    private static OrderRows3 nothingShort() {
        OrderRows3 x = open(4, 2, 2);
        x.goOn(0);
        x.goOn(0);
        x.pick(0, 2);
        x.goOn(0);
        x.goOn(0);
        return x;
    }

    private static OrderRows3 oneOfTwoBackordered() {
        OrderRows3 x = open(4, 2, 0);
        x.line(0, 3, 1, 4);
        for (int k = 0; k < 4; k++) {
            x.goOn(0);
        }
        x.backorder(0);
        return x;
    }

    private static OrderRows3 goneWithCancelledLine() {
        OrderRows3 x = open(0, 2, 2);
        x.line(0, 3, 5, 4);
        x.goOn(0);
        x.goOn(0);
        x.pick(0, 2);
        x.cancel(1);
        x.goOn(0);
        x.goOn(0);
        return x;
    }

    private static OrderRows3 blockedAt(int phase) {
        OrderRows3 x = Scenes.atPhase(phase);
        if (phase == Scenes.PICKING) {
            x.pick(0, 6);
        }
        x.block(0, 0, true);
        return x;
    }

    private static void blocked() {
        for (int phase = Scenes.OPEN; phase <= Scenes.PACKED; phase++) {
            int at = phase;
            check.keeps("blocked in phase " + at, -1, () -> blockedAt(at), x -> x.goOn(0));
            OrderRows3 x = blockedAt(at);
            x.block(0, 0, false);
            check.due("blocked no more in phase " + at, at + 1, x.goOn(0));
        }
    }

    private static OrderRows3 cancelledAndBlocked() {
        OrderRows3 x = blockedAt(Scenes.OPEN);
        x.cancel(0);
        return x;
    }

    private static void refusals() {
        check.refuses("goOn(-1)", Check.NO_SUCH, Promise06GoOnTest::withoutLine, x -> x.goOn(-1));
        check.refuses("goOn(1)", Check.NO_SUCH, Promise06GoOnTest::withoutLine, x -> x.goOn(1));
        for (int phase = Scenes.CLOSED; phase <= Scenes.MERGED; phase++) {
            int at = phase;
            check.refuses("goOn in phase " + at, Check.STATE, () -> Scenes.atPhase(at), x -> x.goOn(0));
        }
        check.refuses("CANCELLED and blocked", Check.STATE, Promise06GoOnTest::cancelledAndBlocked, x -> x.goOn(0));
    }
}
