/**
 * "REFUSALS, the first that holds": calls that are to be refused for two causes or more throw what stands first,
 * and change nothing.
 */
public final class TermsFirstRefusalTest {
    private static final Check check = new Check("first refusal");
    private static final int[] NO_PIECES = {Integer.MIN_VALUE, -1, 0, 1001, Integer.MAX_VALUE};
    private static final int[] NO_DAYS = {Integer.MIN_VALUE, -1, 10001, Integer.MAX_VALUE};
    private static final int[] NO_PERSONS = {Integer.MIN_VALUE, -1, 8, Integer.MAX_VALUE};
    private static final int[][] WRONG_ORDERS = {{-1, 1, 1, 0}, {8, 1, 1, 0}, {5, 0, 1, 0}, {5, 100000, 1, 0},
        {5, 1, 0, 0}, {5, 1, 10, 0}, {5, 1, 1, -1}, {5, 1, 1, 10001}};
    private static final int[][] WRONG_LINES = {{-1, 1, 0}, {16, 1, 0}, {0, 0, 0}, {0, 1001, 0}, {0, 1, -1},
        {0, 1, 8}};
    private static final int[][] WRONG_CHANGES = {{-1, 1}, {3, 1}, {0, 0}, {0, 1001}, {1, -1}, {1, 16}, {2, -1},
        {2, 8}};

    public static void main(String[] args) {
        order();
        lineElementFirst();
        lineArgumentFirst();
        lineStateBeforeRoom();
        hold();
        pick();
        goOn();
        changeElementFirst();
        changeArgumentFirst();
        changeStateBeforeFalse();
        move();
        joinElementFirst();
        joinStateBeforeRoom();
        block();
        backorder();
        told();
        lineOf();
        check.end();
    }

    private static void order() {
        for (int[] a : WRONG_ORDERS) {
            check.refuses("a wrong order and no room: " + text(a), Check.ARGUMENT, Scenes::fullOfOrders,
                    x -> x.order(a[0], a[1], a[2], a[3]));
        }
        check.refuses("a doubled number and a wrong rank", Check.ARGUMENT,
                () -> Scenes.orders(1), x -> x.order(0, 100, 10, 0));
        check.refuses("a doubled number and a wrong day", Check.ARGUMENT,
                () -> Scenes.orders(1), x -> x.order(0, 100, 1, -1));
    }

    private static void lineElementFirst() {
        for (int[] a : WRONG_LINES) {
            check.refuses("no such order and a wrong line: " + text(a), Check.NO_SUCH, () -> Scenes.orders(2),
                    x -> x.line(2, a[0], a[1], a[2]));
            check.refuses("no such order, a wrong line and no room: " + text(a), Check.NO_SUCH, Scenes::full,
                    x -> x.line(20, a[0], a[1], a[2]));
        }
        check.refuses("no such order and no room", Check.NO_SUCH, Scenes::full, x -> x.line(20, 1, 1, 0));
    }

    private static void lineArgumentFirst() {
        for (int[] a : WRONG_LINES) {
            for (int phase = Scenes.ALLOCATED; phase <= Scenes.MERGED; phase++) {
                int at = phase;
                check.refuses("a wrong line in phase " + at + ": " + text(a), Check.ARGUMENT,
                        () -> Scenes.atPhase(at), x -> x.line(0, a[0], a[1], a[2]));
            }
            check.refuses("a wrong ninth line: " + text(a), Check.ARGUMENT, Scenes::eightLines,
                    x -> x.line(0, a[0], a[1], a[2]));
            check.refuses("a wrong 61st line: " + text(a), Check.ARGUMENT, Scenes::full,
                    x -> x.line(0, a[0], a[1], a[2]));
        }
    }

    private static void lineStateBeforeRoom() {
        for (int phase = Scenes.ALLOCATED; phase <= Scenes.MERGED; phase++) {
            int at = phase;
            check.refuses("the 61st line in phase " + at, Check.STATE, () -> fullAtPhase(at),
                    x -> x.line(0, 1, 1, 0));
        }
        for (int phase = Scenes.ALLOCATED; phase <= Scenes.GONE; phase++) {
            int at = phase;
            check.refuses("a ninth line in phase " + at, Check.STATE, () -> eightLinesAtPhase(at),
                    x -> x.line(0, 1, 1, 0));
        }
    }

    /** Twenty orders and sixty lines; order 0, with the lines 0, 20 and 40, is in a phase. */
    private static OrderRows3 fullAtPhase(int phase) {
        OrderRows3 x = Scenes.full();
        for (int line = 0; line < 60; line += 20) {
            x.hold(line, 1 + line);
        }
        if (phase == Scenes.MERGED) {
            x.join(4, 0);
        } else if (phase == Scenes.CANCELLED) {
            for (int line = 0; line < 60; line += 20) {
                x.cancel(line);
            }
        } else {
            walkFull(x, phase);
        }
        return x;
    }

    private static void walkFull(OrderRows3 x, int phase) {
        for (int at = Scenes.OPEN; at < phase; at++) {
            for (int line = 0; at == Scenes.PICKING && line < 60; line += 20) {
                x.pick(line, 1 + line);
            }
            x.goOn(0);
        }
    }

    private static OrderRows3 eightLinesAtPhase(int phase) {
        OrderRows3 x = new OrderRows3();
        x.order(0, 1, 1, 0);
        for (int k = 0; k < 8; k++) {
            x.line(0, k, 5, 4);
        }
        for (int at = Scenes.OPEN; at < phase; at++) {
            x.goOn(0);
        }
        return x;
    }

    private static void hold() {
        for (int n : NO_PIECES) {
            check.refuses("hold of no such line and of " + n, Check.NO_SUCH,
                    () -> Scenes.atPhase(Scenes.OPEN), x -> x.hold(1, n));
            for (int phase = Scenes.PICKING; phase <= Scenes.CANCELLED; phase++) {
                int at = phase;
                check.refuses("hold of " + n + " in phase " + at, Check.ARGUMENT,
                        () -> Scenes.atPhase(at), x -> x.hold(0, n));
            }
            check.refuses("hold of " + n + " for a cancelled line", Check.ARGUMENT,
                    () -> Scenes.cancelledBesideLive(Scenes.OPEN), x -> x.hold(0, n));
            check.refuses("hold of " + n + " when all is held", Check.ARGUMENT,
                    Scenes.then(() -> Scenes.wants(1000, 0), x -> x.hold(0, 1000)), x -> x.hold(0, n));
        }
    }

    private static void pick() {
        for (int n : NO_PIECES) {
            check.refuses("pick of no such line and of " + n, Check.NO_SUCH,
                    () -> Scenes.atPhase(Scenes.PICKING), x -> x.pick(1, n));
            for (int phase = Scenes.OPEN; phase <= Scenes.MERGED; phase++) {
                int at = phase;
                check.refuses("pick of " + n + " in phase " + at, Check.ARGUMENT,
                        () -> Scenes.atPhase(at), x -> x.pick(0, n));
            }
            check.refuses("pick of " + n + " when blocked", Check.ARGUMENT,
                    Scenes.then(() -> Scenes.atPhase(Scenes.PICKING), x -> x.block(0, 7, true)), x -> x.pick(0, n));
            check.refuses("pick of " + n + " when all is picked", Check.ARGUMENT,
                    Scenes.then(() -> Scenes.atPhase(Scenes.PICKING), x -> x.pick(0, 6)), x -> x.pick(0, n));
        }
    }

    /** That somebody blocks it is answered by -1, so the refusal comes before it. */
    private static void goOn() {
        check.refuses("CANCELLED and blocked", Check.STATE, Scenes.then(() -> Scenes.atPhase(Scenes.OPEN),
                x -> x.block(0, 7, true) + x.cancel(0)), x -> x.goOn(0));
    }

    private static long change(OrderRows3 x, int line, int what, int v) {
        return x.change(line, what, v) ? 1 : 0;
    }

    private static void changeElementFirst() {
        for (int[] a : WRONG_CHANGES) {
            check.refuses("no such line and a wrong change: " + text(a), Check.NO_SUCH,
                    () -> Scenes.atPhase(Scenes.OPEN), x -> change(x, 1, a[0], a[1]));
            check.refuses("no such line and a wrong change when full: " + text(a), Check.NO_SUCH,
                    Scenes::full, x -> change(x, 60, a[0], a[1]));
        }
    }

    private static void changeArgumentFirst() {
        for (int[] a : WRONG_CHANGES) {
            for (int phase = Scenes.ALLOCATED; phase <= Scenes.CANCELLED; phase++) {
                int at = phase;
                check.refuses("a wrong change in phase " + at + ": " + text(a), Check.ARGUMENT,
                        () -> Scenes.atPhase(at), x -> change(x, 0, a[0], a[1]));
            }
            check.refuses("a wrong change of a cancelled line: " + text(a), Check.ARGUMENT,
                    () -> Scenes.cancelledBesideLive(Scenes.OPEN), x -> change(x, 0, a[0], a[1]));
            check.refuses("a wrong change where none may stand instead: " + text(a), Check.ARGUMENT,
                    () -> Scenes.atPhase(Scenes.OPEN, 5), x -> change(x, 0, a[0], a[1]));
        }
    }

    private static void changeStateBeforeFalse() {
        for (int phase = Scenes.ALLOCATED; phase <= Scenes.GONE; phase++) {
            for (int what = 0; what < 3; what++) {
                int at = phase;
                int changed = what;
                check.refuses("change " + what + " of a cancelled line in phase " + phase, Check.STATE,
                        () -> Scenes.cancelledBesideLive(at), x -> change(x, 0, changed, 2));
            }
        }
    }

    private static void move() {
        for (int day : NO_DAYS) {
            check.refuses("move of no such order to " + day, Check.NO_SUCH,
                    () -> Scenes.atPhase(Scenes.OPEN), x -> x.move(1, day) ? 1 : 0);
            for (int phase = Scenes.GONE; phase <= Scenes.MERGED; phase++) {
                int at = phase;
                check.refuses("move to " + day + " in phase " + at, Check.ARGUMENT,
                        () -> Scenes.atPhase(at), x -> x.move(0, day) ? 1 : 0);
            }
        }
    }

    private static void refusesJoin(String what, Class<? extends RuntimeException> due, Check.Scene scene, int order,
            int other) {
        check.refuses(what, due, scene, x -> Scenes.join(x, order, other));
    }

    private static void joinElementFirst() {
        for (int phase = Scenes.ALLOCATED; phase <= Scenes.CANCELLED; phase++) {
            int at = phase;
            refusesJoin("no such other, this in phase " + at, Check.NO_SUCH, () -> Scenes.atPhase(at), 0, 1);
            refusesJoin("no such order, the other in phase " + at, Check.NO_SUCH, () -> Scenes.atPhase(at), 1, 0);
        }
        Check.Scene blocked = Scenes.then(() -> Scenes.atPhase(Scenes.OPEN), x -> x.block(0, 0, true));
        refusesJoin("no such other, this blocked", Check.NO_SUCH, blocked, 0, 1);
        refusesJoin("no such order, the other blocked", Check.NO_SUCH, blocked, 1, 0);
        refusesJoin("no such order, twice the same", Check.NO_SUCH, blocked, 1, 1);
        refusesJoin("no such other, this with eight lines", Check.NO_SUCH, Scenes::eightLines, 0, 1);
        refusesJoin("no such order, the other with eight lines", Check.NO_SUCH, Scenes::eightLines, 1, 0);
        refusesJoin("no such orders, when full", Check.NO_SUCH, Scenes::full, 20, 20);
    }

    /** Orders 0 of customer 0, with eight lines, and 1 of this customer, with one line; all lines are ready. */
    private static OrderRows3 nineLines(int customer) {
        OrderRows3 x = eightLinesAtPhase(Scenes.OPEN);
        x.order(customer, 2, 1, 0);
        x.line(1, 1, 5, 4);
        return x;
    }

    private static void joinStateBeforeRoom() {
        Check.Scene nine = () -> nineLines(0);
        refusesJoin("nine lines", Check.NO_ROOM, nine, 0, 1);
        refusesJoin("sixteen lines of the same", Check.STATE, nine, 0, 0);
        refusesJoin("nine lines of two customers", Check.STATE, () -> nineLines(1), 0, 1);
        for (int order = 0; order < 2; order++) {
            int at = order;
            Check.Scene allocated = Scenes.then(nine, x -> x.goOn(at));
            Check.Scene blocked = Scenes.then(nine, x -> x.block(at, 7, true));
            refusesJoin("nine lines, " + order + " ALLOCATED", Check.STATE, allocated, 0, 1);
            refusesJoin("nine lines, " + order + " ALLOCATED, turned", Check.STATE, allocated, 1, 0);
            refusesJoin("nine lines, " + order + " blocked", Check.STATE, blocked, 0, 1);
            refusesJoin("nine lines, " + order + " blocked, turned", Check.STATE, blocked, 1, 0);
        }
    }

    private static void block() {
        for (int person : NO_PERSONS) {
            for (int k = 0; k < 2; k++) {
                boolean on = k == 0;
                check.refuses("block " + on + " of no such order by " + person, Check.NO_SUCH,
                        () -> Scenes.atPhase(Scenes.OPEN), x -> x.block(1, person, on));
                for (int phase = Scenes.GONE; phase <= Scenes.MERGED; phase++) {
                    int at = phase;
                    check.refuses("block " + on + " by " + person + " in phase " + at, Check.ARGUMENT,
                            () -> Scenes.atPhase(at), x -> x.block(0, person, on));
                }
            }
        }
    }

    /**
     * Order 0 is GONE: line 0 cancelled, 1 not short, 2 not for BACKORDER, 3 backordered, 4 short;
     * order 1 is the backorder of 3, with line 5. The other orders and lines are filled up.
     */
    private static OrderRows3 fullAndGone(int orders, int lines) {
        OrderRows3 x = new OrderRows3();
        x.order(0, 1, 1, 0);
        int[] rules = {4, 4, 1, 4, 4};
        for (int line = 0; line < 5; line++) {
            x.line(0, line, 5, rules[line]);
        }
        x.hold(1, 5);
        x.hold(2, 1);
        x.cancel(0);
        x.goOn(0);
        x.goOn(0);
        x.pick(1, 5);
        x.pick(2, 1);
        x.goOn(0);
        x.goOn(0);
        x.backorder(3);
        fill(x, orders, lines);
        return x;
    }

    private static void fill(OrderRows3 x, int orders, int lines) {
        for (int k = x.count(0); k < orders; k++) {
            x.order(1, k, 1, 0);
        }
        for (int k = x.count(1); k < lines; k++) {
            x.line(2 + k / 8, 1, 1, 0);
        }
    }

    private static void backorder() {
        String[] why = {"not live", "not short", "not for BACKORDER", "backordered", "", "not GONE"};
        Check.Scene[] full = {() -> fullAndGone(20, 6), () -> fullAndGone(19, 60), () -> fullAndGone(20, 60)};
        for (Check.Scene scene : full) {
            for (int line = 0; line < why.length; line++) {
                int at = line;
                check.refuses(line == 4 ? "no room" : "no room and " + why[line],
                        line == 4 ? Check.NO_ROOM : Check.STATE, scene, x -> x.backorder(at));
            }
            check.refuses("no room and no such line", Check.NO_SUCH, scene, x -> x.backorder(x.count(1)));
            check.refuses("no room and line -1", Check.NO_SUCH, scene, x -> x.backorder(-1));
        }
        check.answers("room for one order and one line", 59, () -> fullAndGone(19, 59), x -> x.backorder(4));
    }

    private static void told() {
        for (int what : new int[] {Integer.MIN_VALUE, -1, 10, Integer.MAX_VALUE}) {
            check.refuses("told of no such order, " + what, Check.NO_SUCH, OrderRows3::new, x -> x.told(0, what));
            check.refuses("told of order -1, " + what, Check.NO_SUCH, Scenes::full, x -> x.told(-1, what));
            check.refuses("told of order 20, " + what, Check.NO_SUCH, Scenes::full, x -> x.told(20, what));
        }
    }

    private static void lineOf() {
        for (int i : new int[] {Integer.MIN_VALUE, -1}) {
            check.refuses("lineOf of no such order, " + i, Check.NO_SUCH, OrderRows3::new, x -> x.lineOf(0, i));
            check.refuses("lineOf of order -1, " + i, Check.NO_SUCH, Scenes::full, x -> x.lineOf(-1, i));
            check.refuses("lineOf of order 20, " + i, Check.NO_SUCH, Scenes::full, x -> x.lineOf(20, i));
        }
    }

    private static String text(int[] numbers) {
        return java.util.Arrays.toString(numbers);
    }
}
