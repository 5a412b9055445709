public final class Promise12BackorderTest {
    private static final Check check = new Check("promise 12");

    public static void main(String[] args) {
        backorders();
        withoutGoodInstead();
        backorderOfBackorder();
        sameCustomerRankAndDay();
        sameGoodAndRules();
        leastAndGreatestShort();
        linesThatThereAre();
        goneAlone();
        notLiveNotForItNotShort();
        once();
        roomForAnOrder();
        roomForALine();
        fromAnOrderOfEightLines();
        check.end();
    }

    private static OrderRows3 gone() {
        return Scenes.atPhase(Scenes.GONE, 7);
    }

    private static void backorders() {
        OrderRows3 x = gone();
        int version = x.told(0, 7);
        check.due("backorder(0)", 1, x.backorder(0));
        int[] due = {Scenes.OPEN, 3, 0, 4, 70, 0, 1, 2, -1, 0};
        for (int what = 0; what < due.length; what++) {
            check.due("told(1, " + what + ")", due[what], x.told(1, what));
        }
        check.due("its line", 1, x.lineOf(1, 0));
        check.due("its line packed", 2 | 7 << 9 | 4 << 12 | 1L << 52 | 1L << 54, x.packed(1));
        check.due("the old line was backordered", 1, Packed.backordered(x.packed(0)));
        check.due("what is short stays told", 4, x.told(0, 9));
        check.due("the old order's version", version, x.told(0, 7));
        check.due("the old order's phase", Scenes.GONE, x.told(0, 0));
        check.due("count(0)", 2, x.count(0));
        check.due("count(1)", 2, x.count(1));
        check.due("the new order waits", 1, x.ready(0));
    }

    private static void withoutGoodInstead() {
        OrderRows3 x = new OrderRows3();
        x.order(0, 1, 1, 0);
        x.line(0, 3, 5, 6);
        x.change(0, 1, 8);
        for (int k = 0; k < 4; k++) {
            x.goOn(0);
        }
        x.backorder(0);
        check.due("the same good", 3, Packed.good(x.packed(1)));
        check.due("no good instead", 0, Packed.insteadAndOne(x.packed(1)));
        check.due("all of it was short", 5, Packed.wanted(x.packed(1)));
    }

    private static void backorderOfBackorder() {
        OrderRows3 x = gone();
        x.backorder(0);
        x.hold(1, 1);
        x.goOn(1);
        x.goOn(1);
        x.pick(1, 1);
        x.goOn(1);
        x.goOn(1);
        check.due("backorder(1)", 2, x.backorder(1));
        check.due("wants what is short still", 3, Packed.wanted(x.packed(2)));
        check.due("two backorders of one customer", 0, x.told(2, 2));
        check.due("count(3)", 7, x.count(3));
    }

    private static OrderRows3 backordered() {
        OrderRows3 x = gone();
        x.backorder(0);
        return x;
    }

    private static void sameCustomerRankAndDay() {
        takesOver(0, 1, 0, 10000);
        takesOver(7, 9, 10000, 0);
        takesOver(3, 4, 70, 70);
    }

    /** The day is the one it is GONE with, the own number is 0. */
    private static void takesOver(int customer, int rank, int firstDay, int day) {
        OrderRows3 x = new OrderRows3();
        x.order(customer, 99999, rank, firstDay);
        x.line(0, 1, 1, 4);
        x.move(0, day);
        for (int k = 0; k < 4; k++) {
            x.goOn(0);
        }
        x.backorder(0);
        check.due("customer", customer, x.told(1, 1));
        check.due("own number", 0, x.told(1, 2));
        check.due("rank", rank, x.told(1, 3));
        check.due("day", day, x.told(1, 4));
    }

    private static void sameGoodAndRules() {
        for (int good = 0; good < 16; good += 15) {
            for (int rules = 4; rules < 8; rules++) {
                OrderRows3 x = new OrderRows3();
                x.order(0, 1, 1, 0);
                x.line(0, good, 1, 4);
                x.change(0, 2, rules);
                for (int k = 0; k < 4; k++) {
                    x.goOn(0);
                }
                x.backorder(0);
                check.due("good", good, Packed.good(x.packed(1)));
                check.due("rules", rules, Packed.rules(x.packed(1)));
            }
        }
    }

    private static void leastAndGreatestShort() {
        int[][] wantedAndHeld = {{1, 0}, {1000, 0}, {1000, 1}, {1000, 999}};
        for (int[] row : wantedAndHeld) {
            OrderRows3 x = Scenes.goneShort(row[0], row[1]);
            check.due("short", row[0] - row[1], x.told(0, 9));
            check.due("backorder of " + row[0] + " with " + row[1], 1, x.backorder(0));
            check.due("wanted there", row[0] - row[1], Packed.wanted(x.packed(1)));
        }
        check.refuses("1 of 1 shipped", Check.STATE, () -> Scenes.goneShort(1, 1), x -> x.backorder(0));
        check.refuses("1000 of 1000 shipped", Check.STATE, () -> Scenes.goneShort(1000, 1000), x -> x.backorder(0));
    }

    /** Line 0 is cancelled, line 1 not short, line 2 short but not for BACKORDER. */
    private static OrderRows3 nothingToBackorder() {
        OrderRows3 x = new OrderRows3();
        x.order(0, 1, 1, 0);
        x.line(0, 3, 5, 4);
        x.line(0, 4, 5, 4);
        x.line(0, 5, 5, 3);
        x.hold(1, 5);
        x.hold(2, 4);
        x.goOn(0);
        x.goOn(0);
        x.cancel(0);
        x.pick(1, 5);
        x.pick(2, 4);
        x.goOn(0);
        x.goOn(0);
        return x;
    }

    private static void linesThatThereAre() {
        check.refusesOutside("backorder of line", Check.NO_SUCH, 0, 0, Promise12BackorderTest::gone,
                (x, v) -> x.backorder(v));
        check.refusesOutside("backorder of line, when full of lines,", Check.NO_SUCH, 0, 59, Scenes::fullOfLines,
                (x, v) -> x.backorder(v));
    }

    private static void goneAlone() {
        for (int phase = Scenes.OPEN; phase <= Scenes.MERGED; phase++) {
            int at = phase;
            if (at != Scenes.GONE && at != Scenes.CLOSED) {
                check.refuses("backorder in phase " + at, Check.STATE,
                        () -> Scenes.atPhase(at, 7), x -> x.backorder(0));
            }
        }
        check.refuses("CLOSED and short, not for BACKORDER", Check.STATE,
                () -> Scenes.atPhase(Scenes.CLOSED, 3), x -> x.backorder(0));
        check.refuses("CLOSED and backordered", Check.STATE, Scenes::closedAndBackordered, x -> x.backorder(0));
        check.refuses("the OPEN backorder itself", Check.STATE, Promise12BackorderTest::backordered,
                x -> x.backorder(1));
    }

    private static void notLiveNotForItNotShort() {
        String[] why = {"not live", "not short", "not for BACKORDER"};
        for (int line = 0; line < 3; line++) {
            int at = line;
            check.refuses(why[line], Check.STATE, Promise12BackorderTest::nothingToBackorder, x -> x.backorder(at));
        }
        for (int rules = 0; rules < 4; rules++) {
            int bits = rules;
            check.refuses("rules " + bits, Check.STATE, () -> Scenes.goneWithRules(bits), x -> x.backorder(0));
            check.answers("rules " + (bits + 4), 1, () -> Scenes.goneWithRules(bits + 4), x -> x.backorder(0));
        }
    }

    private static void once() {
        check.refuses("once more", Check.STATE, Promise12BackorderTest::backordered, x -> x.backorder(0));
        Check.Scene backorderCancelled = Scenes.then(Promise12BackorderTest::backordered, x -> x.cancel(1));
        check.refuses("once more, when the backorder is CANCELLED", Check.STATE, backorderCancelled,
                x -> x.backorder(0));
    }

    /** Order 0 is GONE and short; with the others there are so many. */
    private static OrderRows3 ordersBeside(int count) {
        OrderRows3 x = gone();
        for (int k = 1; k < count; k++) {
            x.order(k % 3, k, 1, k);
        }
        return x;
    }

    private static void roomForAnOrder() {
        OrderRows3 x = ordersBeside(19);
        check.due("room for the last order", 1, x.backorder(0));
        check.due("the last order", 19, Packed.order(x.packed(1)));
        check.refuses("no room for an order", Check.NO_ROOM, () -> ordersBeside(20), y -> y.backorder(0));
    }

    /** Order 0 is GONE and short; with the lines of the others there are so many. */
    private static OrderRows3 linesBeside(int count) {
        OrderRows3 x = gone();
        for (int k = 1; k < count; k++) {
            if (k % 8 == 1) {
                x.order(0, k, 1, 0);
            }
            x.line(1 + (k - 1) / 8, 1, 1, 0);
        }
        return x;
    }

    private static void roomForALine() {
        check.answers("room for the last line", 59, () -> linesBeside(59), x -> x.backorder(0));
        check.refuses("no room for a line", Check.NO_ROOM, () -> linesBeside(60), x -> x.backorder(0));
    }

    private static void fromAnOrderOfEightLines() {
        OrderRows3 x = new OrderRows3();
        x.order(0, 1, 1, 0);
        for (int k = 0; k < 8; k++) {
            x.line(0, k, 5, 4);
        }
        for (int k = 0; k < 4; k++) {
            x.goOn(0);
        }
        for (int line = 0; line < 8; line++) {
            check.due("backorder of line " + line, 8 + line, x.backorder(line));
            check.due("an order of its own", 1 + line, Packed.order(x.packed(8 + line)));
        }
        check.due("eight lines still", 8, x.told(0, 6));
        check.due("to CLOSED", 5, x.goOn(0));
    }
}
