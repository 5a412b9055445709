public final class Promise07ChangeTest {
    private static final Check check = new Check("promise 7");

    public static void main(String[] args) {
        wanted();
        instead();
        rules();
        phases();
        ranges();
        notLive();
        check.end();
    }

    private static long ask(OrderRows3 x, int line, int what, int v) {
        return x.change(line, what, v) ? 1 : 0;
    }

    private static OrderRows3 open() {
        return Scenes.atPhase(Scenes.OPEN);
    }

    private static void wanted() {
        OrderRows3 x = open();
        int version = x.told(0, 7);
        check.due("wants 1000", 1, ask(x, 0, 0, 1000));
        check.due("wanted", 1000, Packed.wanted(x.packed(0)));
        check.due("held as before", 6, Packed.held(x.packed(0)));
        check.due("wants what is held", 1, ask(x, 0, 0, 6));
        check.due("held still", 6, Packed.held(x.packed(0)));
        check.due("wants one less", 1, ask(x, 0, 0, 5));
        check.due("what is held above is free", 5, Packed.held(x.packed(0)));
        check.due("count(2)", 5, x.count(2));
        check.due("wants 1", 1, ask(x, 0, 0, 1));
        check.due("one held", 1, Packed.held(x.packed(0)));
        check.due("the same again", 1, ask(x, 0, 0, 1));
        check.due("version", version + 5, x.told(0, 7));
        check.due("wants more again", 1, ask(x, 0, 0, 10));
        check.due("what was freed stays free", 1, Packed.held(x.packed(0)));
    }

    private static void instead() {
        OrderRows3 x = open();
        int version = x.told(0, 7);
        check.due("good 0 instead", 1, ask(x, 0, 1, 0));
        check.due("1 and good 0", 1, Packed.insteadAndOne(x.packed(0)));
        check.due("good 15 instead", 1, ask(x, 0, 1, 15));
        check.due("1 and good 15", 16, Packed.insteadAndOne(x.packed(0)));
        check.due("the good as before", 2, Packed.good(x.packed(0)));
        check.due("version", version + 2, x.told(0, 7));
        check.refuses("the good itself", Check.STATE, Promise07ChangeTest::open, y -> ask(y, 0, 1, 2));
        for (int rules = 0; rules < 8; rules++) {
            int bits = rules;
            if ((bits & 2) != 0) {
                check.due("rules " + bits, 1, ask(Scenes.atPhase(Scenes.OPEN, bits), 0, 1, 9));
            } else {
                check.refuses("rules " + bits, Check.STATE,
                        () -> Scenes.atPhase(Scenes.OPEN, bits), y -> ask(y, 0, 1, 9));
            }
        }
    }

    private static void rules() {
        OrderRows3 x = open();
        int version = x.told(0, 7);
        check.due("rules 0", 1, ask(x, 0, 2, 0));
        check.due("none", 0, Packed.rules(x.packed(0)));
        check.due("a part of it does no more", -1, x.goOn(0));
        check.due("rules 7", 1, ask(x, 0, 2, 7));
        check.due("all", 7, Packed.rules(x.packed(0)));
        check.due("version", version + 2, x.told(0, 7));
        check.due("a part of it does again", 1, x.goOn(0));
        check.due("rules 4 when ALLOCATED", 1, ask(x, 0, 2, 4));
        check.due("BACKORDER alone", 4, Packed.rules(x.packed(0)));
        check.due("version when ALLOCATED", version + 4, x.told(0, 7));
        OrderRows3 stood = open();
        stood.change(0, 1, 9);
        stood.change(0, 2, 0);
        check.due("the good instead stays", 10, Packed.insteadAndOne(stood.packed(0)));
    }

    private static void phases() {
        for (int phase = Scenes.ALLOCATED; phase <= Scenes.CLOSED; phase++) {
            int at = phase;
            check.keeps("wanted in phase " + at, 0, () -> Scenes.atPhase(at), x -> ask(x, 0, 0, 5));
            check.keeps("instead in phase " + at, 0, () -> Scenes.atPhase(at), x -> ask(x, 0, 1, 5));
            check.keeps("the good itself in phase " + at, 0, () -> Scenes.atPhase(at), x -> ask(x, 0, 1, 2));
            check.keeps("instead without the rule in phase " + at, 0,
                    () -> Scenes.atPhase(at, 1), x -> ask(x, 0, 1, 5));
            if (at != Scenes.ALLOCATED) {
                check.keeps("rules in phase " + at, 0, () -> Scenes.atPhase(at), x -> ask(x, 0, 2, 5));
            }
            check.refuses("a wrong v in phase " + at, Check.ARGUMENT,
                    () -> Scenes.atPhase(at), x -> ask(x, 0, 0, 0));
        }
        OrderRows3 blocked = open();
        blocked.block(0, 1, true);
        check.due("wanted of a blocked order", 1, ask(blocked, 0, 0, 3));
        OrderRows3 merged = Scenes.atPhase(Scenes.MERGED);
        check.due("wanted of a line that came to another order", 1, ask(merged, 0, 0, 3));
        check.due("the version there", 3, merged.told(1, 7));
    }

    private static void ranges() {
        refuses(Check.NO_SUCH, -1, 0, 1);
        refuses(Check.NO_SUCH, 1, 0, 1);
        refuses(Check.NO_SUCH, 1, 3, 1);
        refuses(Check.ARGUMENT, 0, -1, 1);
        refuses(Check.ARGUMENT, 0, 3, 1);
        refuses(Check.ARGUMENT, 0, Integer.MIN_VALUE, 1);
        refuses(Check.ARGUMENT, 0, 0, 0);
        refuses(Check.ARGUMENT, 0, 0, 1001);
        refuses(Check.ARGUMENT, 0, 1, -1);
        refuses(Check.ARGUMENT, 0, 1, 16);
        refuses(Check.ARGUMENT, 0, 2, -1);
        refuses(Check.ARGUMENT, 0, 2, 8);
    }

    private static void refuses(Class<? extends RuntimeException> due, int line, int what, int v) {
        check.refuses("change(" + line + ", " + what + ", " + v + ")", due,
                Promise07ChangeTest::open, x -> ask(x, line, what, v));
    }

    /** Line 0 is cancelled, line 1 is live, and the order has gone on so far. */
    private static OrderRows3 cancelledLine(int phase) {
        OrderRows3 x = new OrderRows3();
        x.order(0, 1, 1, 0);
        x.line(0, 2, 10, 7);
        x.line(0, 2, 10, 4);
        x.cancel(0);
        for (int k = 0; k < phase; k++) {
            x.goOn(0);
        }
        return x;
    }

    private static void notLive() {
        for (int phase = Scenes.OPEN; phase <= Scenes.GONE; phase++) {
            for (int what = 0; what < 3; what++) {
                int at = phase;
                int changed = what;
                check.refuses("change " + what + " of a cancelled line in phase " + at, Check.STATE,
                        () -> cancelledLine(at), x -> ask(x, 0, changed, 5));
            }
        }
        check.refuses("a wrong v for a cancelled line", Check.ARGUMENT,
                () -> cancelledLine(Scenes.OPEN), x -> ask(x, 0, 2, 8));
        check.refuses("a line of a CANCELLED order", Check.STATE,
                () -> Scenes.atPhase(Scenes.CANCELLED), x -> ask(x, 0, 0, 5));
    }
}
