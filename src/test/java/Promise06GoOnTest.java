public final class Promise06GoOnTest {
    private static final Check check = new Check("promise 6");

    public static void main(String[] args) {
        wholeWay();
        ordersThatThereAre();
        fromOpenWithoutLine();
        fromOpenByRules();
        fromOpenWithTwoLines();
        fromOpenAtTheLeastAndGreatest();
        fromAllocatedAlways();
        fromPicking();
        fromPacked();
        fromGone();
        fromGoneByRules();
        blocked();
        closedCancelledMerged();
        check.end();
    }

    private static void wholeWay() {
        OrderRows3 x = Scenes.atPhase(Scenes.OPEN);
        int version = x.told(0, 7);
        check.due("to ALLOCATED", 1, x.goOn(0));
        check.due("to PICKING", 2, x.goOn(0));
        check.due("version", version + 2, x.told(0, 7));
        x.pick(0, 6);
        check.due("to PACKED", 3, x.goOn(0));
        check.due("to GONE", 4, x.goOn(0));
        check.due("to CLOSED", 5, x.goOn(0));
        check.due("phase", 5, x.told(0, 0));
        check.due("version at the end", version + 6, x.told(0, 7));
    }

    private static OrderRows3 open(int rules, int wanted, int held) {
        OrderRows3 x = new OrderRows3();
        x.order(0, 1, 1, 0);
        x.line(0, 1, wanted, rules);
        if (held > 0) {
            x.hold(0, held);
        }
        return x;
    }

    private static void ordersThatThereAre() {
        check.refusesOutside("goOn of order", Check.NO_SUCH, 0, 0, Promise06GoOnTest::withoutLine,
                (x, v) -> x.goOn(v));
        check.refusesOutside("goOn of order, when full,", Check.NO_SUCH, 0, 19, Scenes::full, (x, v) -> x.goOn(v));
        check.answers("goOn of the first order", 1, Scenes::full, x -> x.goOn(0));
        check.answers("goOn of the last order", 1, Scenes::full, x -> x.goOn(19));
    }

    private static void fromOpenWithoutLine() {
        check.keeps("without a line", -1, Promise06GoOnTest::withoutLine, x -> x.goOn(0));
        check.keeps("an order that an order without lines was joined to", -1,
                Promise06GoOnTest::joinedWithoutLines, x -> x.goOn(0));
    }

    private static OrderRows3 joinedWithoutLines() {
        OrderRows3 x = withoutLine();
        x.order(0, 2, 1, 0);
        x.join(0, 1);
        return x;
    }

    private static void fromOpenByRules() {
        for (int rules = 0; rules < 8; rules++) {
            boolean partial = (rules & 1) != 0;
            boolean backorder = (rules & 4) != 0;
            opens(rules, 0, backorder);
            opens(rules, 1, partial || backorder);
            opens(rules, 9, partial || backorder);
            opens(rules, 10, true);
        }
    }

    private static OrderRows3 withoutLine() {
        OrderRows3 x = new OrderRows3();
        x.order(0, 1, 1, 0);
        return x;
    }

    private static void opens(int rules, int held, boolean goes) {
        String what = "rules " + rules + ", held " + held + " of 10";
        if (goes) {
            check.due(what, 1, open(rules, 10, held).goOn(0));
        } else {
            check.keeps(what, -1, () -> open(rules, 10, held), x -> x.goOn(0));
        }
    }

    private static OrderRows3 secondLine(int rules) {
        OrderRows3 x = open(0, 10, 10);
        x.line(0, 2, 3, rules);
        return x;
    }

    private static void fromOpenWithTwoLines() {
        check.keeps("one line of two ready", -1, () -> secondLine(0), x -> x.goOn(0));
        check.keeps("two pieces of three", -1, Scenes.then(() -> secondLine(0), x -> x.hold(1, 2)), x -> x.goOn(0));
        check.answers("both held", 1, Scenes.then(() -> secondLine(0), x -> x.hold(1, 3)), x -> x.goOn(0));
        check.answers("both lines ready", 1, () -> secondLine(4), x -> x.goOn(0));
        check.answers("a cancelled line beside a ready one", 1,
                Scenes.then(() -> secondLine(0), x -> x.cancel(1)), x -> x.goOn(0));
        check.keeps("a cancelled line beside one that is not ready", -1,
                Scenes.then(() -> secondLine(0), x -> x.cancel(0)), x -> x.goOn(0));
    }

    private static void fromOpenAtTheLeastAndGreatest() {
        check.keeps("0 of 1", -1, () -> open(1, 1, 0), x -> x.goOn(0));
        check.answers("1 of 1", 1, () -> open(0, 1, 1), x -> x.goOn(0));
        check.keeps("999 of 1000", -1, () -> open(2, 1000, 999), x -> x.goOn(0));
        check.answers("1000 of 1000", 1, () -> open(2, 1000, 1000), x -> x.goOn(0));
        check.answers("1 of 1000, PARTIAL", 1, () -> open(1, 1000, 1), x -> x.goOn(0));
        check.keeps("the last of eight lines not ready", -1, () -> eightLines(7), x -> x.goOn(0));
        check.answers("all of eight lines ready", 1, () -> eightLines(8), x -> x.goOn(0));
    }

    private static OrderRows3 eightLines(int ready) {
        OrderRows3 x = Scenes.eightLines();
        for (int line = 0; line < ready; line++) {
            x.hold(line, 5);
        }
        return x;
    }

    /** The rules that let it come so far may be taken away then. */
    private static void fromAllocatedAlways() {
        for (int rules = 0; rules < 8; rules++) {
            OrderRows3 x = open(4, 10, 0);
            x.goOn(0);
            x.change(0, 2, rules);
            check.due("nothing held, rules " + rules, 2, x.goOn(0));
        }
    }

    private static OrderRows3 pickingTwoLines() {
        OrderRows3 x = open(0, 10, 10);
        x.line(0, 2, 3, 0);
        x.hold(1, 3);
        x.goOn(0);
        x.goOn(0);
        x.pick(0, 10);
        return x;
    }

    private static void fromPicking() {
        check.keeps("the only line not picked", -1, () -> Scenes.atPhase(Scenes.PICKING), x -> x.goOn(0));
        check.keeps("one line of two not picked", -1, Promise06GoOnTest::pickingTwoLines, x -> x.goOn(0));
        OrderRows3 some = pickingTwoLines();
        some.pick(1, 2);
        check.due("all but one piece picked", -1, some.goOn(0));
        some.pick(1, 1);
        check.due("all picked", 3, some.goOn(0));
        OrderRows3 cancelled = pickingTwoLines();
        cancelled.cancel(1);
        check.due("a cancelled line beside a picked one", 3, cancelled.goOn(0));
        OrderRows3 nothing = open(4, 10, 0);
        nothing.goOn(0);
        nothing.goOn(0);
        check.due("nothing held, nothing picked", 3, nothing.goOn(0));
    }

    private static void fromPacked() {
        OrderRows3 x = Scenes.atPhase(Scenes.PACKED);
        check.due("shipped before", 0, Packed.shipped(x.packed(0)));
        check.due("short before", 0, x.told(0, 9));
        check.due("to GONE", 4, x.goOn(0));
        check.due("shipped then", 6, Packed.shipped(x.packed(0)));
        check.due("picked then", 6, Packed.picked(x.packed(0)));
        check.due("held then", 6, Packed.held(x.packed(0)));
        check.due("short then", 4, x.told(0, 9));
        check.due("count(3)", 6, x.count(3));
    }

    /** BACKORDER counts when it is to be CLOSED, though the rules came when it was ALLOCATED. */
    private static void fromGoneByRules() {
        for (int rules = 0; rules < 8; rules++) {
            boolean backorder = (rules & 4) != 0;
            int late = rules;
            Check.Scene gone = () -> Scenes.goneWithRules(late);
            if (backorder) {
                check.keeps("short with rules " + late, -1, gone, x -> x.goOn(0));
                check.answers("backordered with rules " + late, 5, Scenes.then(gone, x -> x.backorder(0)),
                        x -> x.goOn(0));
            } else {
                check.answers("short with rules " + late, 5, gone, x -> x.goOn(0));
            }
        }
        check.keeps("one piece short of 1000", -1, () -> Scenes.goneShort(1000, 999), x -> x.goOn(0));
        check.answers("none short of 1000", 5, () -> Scenes.goneShort(1000, 1000), x -> x.goOn(0));
    }

    private static OrderRows3 gone(int rules) {
        return Scenes.atPhase(Scenes.GONE, rules);
    }

    private static void fromGone() {
        check.due("short, not for BACKORDER", 5, gone(3).goOn(0));
        check.keeps("short and for BACKORDER", -1, () -> gone(5), x -> x.goOn(0));
        OrderRows3 x = gone(5);
        x.backorder(0);
        check.due("backordered", 5, x.goOn(0));
        check.due("for BACKORDER, not short", 5, Scenes.goneShort(2, 2).goOn(0));
        check.keeps("one of two backordered", -1, Promise06GoOnTest::oneOfTwoBackordered, y -> y.goOn(0));
        OrderRows3 both = oneOfTwoBackordered();
        both.backorder(1);
        check.due("both backordered", 5, both.goOn(0));
        check.due("a cancelled line for BACKORDER", 5, goneWithCancelledLine().goOn(0));
    }

    private static OrderRows3 oneOfTwoBackordered() {
        OrderRows3 x = open(4, 2, 0);
        x.line(0, 3, 1, 4);
        for (int k = 0; k < 4; k++) {
            x.goOn(0);
        }
        x.backorder(0);
        return x;
    }

    private static OrderRows3 goneWithCancelledLine() {
        OrderRows3 x = open(0, 2, 2);
        x.line(0, 3, 5, 4);
        x.goOn(0);
        x.goOn(0);
        x.pick(0, 2);
        x.cancel(1);
        x.goOn(0);
        x.goOn(0);
        return x;
    }

    private static OrderRows3 blockedAt(int phase) {
        OrderRows3 x = Scenes.atPhase(phase);
        if (phase == Scenes.PICKING) {
            x.pick(0, 6);
        }
        x.block(0, 0, true);
        return x;
    }

    private static void blocked() {
        for (int phase = Scenes.OPEN; phase <= Scenes.PACKED; phase++) {
            int at = phase;
            check.keeps("blocked in phase " + at, -1, () -> blockedAt(at), x -> x.goOn(0));
            OrderRows3 x = blockedAt(at);
            x.block(0, 0, false);
            check.due("blocked no more in phase " + at, at + 1, x.goOn(0));
            check.keeps("blocked by one of two still in phase " + at, -1,
                    Scenes.then(() -> blockedAt(at), y -> y.block(0, 7, true) + y.block(0, 0, false)), y -> y.goOn(0));
        }
    }

    private static OrderRows3 cancelledAndBlocked() {
        OrderRows3 x = blockedAt(Scenes.OPEN);
        x.cancel(0);
        return x;
    }

    private static void closedCancelledMerged() {
        for (int phase = Scenes.CLOSED; phase <= Scenes.MERGED; phase++) {
            int at = phase;
            check.refuses("goOn in phase " + at, Check.STATE, () -> Scenes.atPhase(at), x -> x.goOn(0));
        }
        check.refuses("CLOSED and backordered", Check.STATE, Scenes::closedAndBackordered, x -> x.goOn(0));
        check.refuses("CANCELLED and blocked", Check.STATE, Promise06GoOnTest::cancelledAndBlocked, x -> x.goOn(0));
    }
}
