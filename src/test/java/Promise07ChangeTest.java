public final class Promise07ChangeTest {
    private static final Check check = new Check("promise 7");

    public static void main(String[] args) {
        wanted();
        heldAboveWantedIsFree();
        instead();
        insteadByRules();
        rules();
        linesThatThereAre();
        whats();
        wantedPieces();
        goodsInstead();
        rulesInRange();
        phases();
        phaseBeforeRules();
        notLive();
        blockedOrMerged();
        check.end();
    }

    private static long ask(OrderRows3 x, int line, int what, int v) {
        return x.change(line, what, v) ? 1 : 0;
    }

    private static OrderRows3 open() {
        return Scenes.atPhase(Scenes.OPEN);
    }

    private static void wanted() {
        OrderRows3 x = open();
        int version = x.told(0, 7);
        check.due("wants 1000", 1, ask(x, 0, 0, 1000));
        check.due("wanted", 1000, Packed.wanted(x.packed(0)));
        check.due("held as before", 6, Packed.held(x.packed(0)));
        check.due("wants 1", 1, ask(x, 0, 0, 1));
        check.due("the same again", 1, ask(x, 0, 0, 1));
        check.due("version", version + 3, x.told(0, 7));
    }

    private static void heldAboveWantedIsFree() {
        int[][] wantedAndHeld = {{1000, 6}, {7, 6}, {6, 6}, {5, 5}, {1, 1}};
        for (int[] due : wantedAndHeld) {
            OrderRows3 x = open();
            check.due("6 held, wants " + due[0], 1, ask(x, 0, 0, due[0]));
            check.due("wanted then", due[0], Packed.wanted(x.packed(0)));
            check.due("held then", due[1], Packed.held(x.packed(0)));
            check.due("count(2) then", due[1], x.count(2));
        }
        OrderRows3 x = open();
        ask(x, 0, 0, 1);
        ask(x, 0, 0, 10);
        check.due("what was freed stays free", 1, Packed.held(x.packed(0)));
        OrderRows3 none = Scenes.wants(10, 0);
        ask(none, 0, 0, 1);
        check.due("none held before, none then", 0, Packed.held(none.packed(0)));
    }

    private static void instead() {
        OrderRows3 x = open();
        int version = x.told(0, 7);
        check.due("good 0 instead", 1, ask(x, 0, 1, 0));
        check.due("1 and good 0", 1, Packed.insteadAndOne(x.packed(0)));
        check.due("good 15 instead", 1, ask(x, 0, 1, 15));
        check.due("1 and good 15", 16, Packed.insteadAndOne(x.packed(0)));
        check.due("the good as before", 2, Packed.good(x.packed(0)));
        check.due("version", version + 2, x.told(0, 7));
        check.due("the same again", 1, ask(x, 0, 1, 15));
        check.refuses("the good itself", Check.STATE, Promise07ChangeTest::open, y -> ask(y, 0, 1, 2));
        check.refuses("the good itself, where another stands", Check.STATE,
                Scenes.then(Promise07ChangeTest::open, y -> ask(y, 0, 1, 9)), y -> ask(y, 0, 1, 2));
        for (int good = 0; good < 16; good += 15) {
            int at = good;
            check.refuses("the good itself, " + at, Check.STATE, () -> lineOfGood(at), y -> ask(y, 0, 1, at));
            check.answers("another than " + at, 1, () -> lineOfGood(at), y -> ask(y, 0, 1, 15 - at));
        }
    }

    private static OrderRows3 lineOfGood(int good) {
        OrderRows3 x = new OrderRows3();
        x.order(0, 1, 1, 0);
        x.line(0, good, 5, 2);
        return x;
    }

    private static void insteadByRules() {
        for (int rules = 0; rules < 8; rules++) {
            int bits = rules;
            if ((bits & 2) != 0) {
                check.answers("rules " + bits, 1, () -> Scenes.atPhase(Scenes.OPEN, bits), y -> ask(y, 0, 1, 9));
            } else {
                check.refuses("rules " + bits, Check.STATE,
                        () -> Scenes.atPhase(Scenes.OPEN, bits), y -> ask(y, 0, 1, 9));
            }
        }
        OrderRows3 x = Scenes.atPhase(Scenes.OPEN, 0);
        ask(x, 0, 2, 2);
        check.due("rules that let it now", 1, ask(x, 0, 1, 9));
        ask(x, 0, 2, 5);
        check.due("rules that let it no more", "java.lang.IllegalStateException",
                Check.outcome(x, y -> ask(y, 0, 1, 8)));
        check.due("the good instead stays", 10, Packed.insteadAndOne(x.packed(0)));
    }

    private static void rules() {
        OrderRows3 x = open();
        int version = x.told(0, 7);
        check.due("rules 0", 1, ask(x, 0, 2, 0));
        check.due("a part of it does no more", -1, x.goOn(0));
        check.due("rules 7", 1, ask(x, 0, 2, 7));
        check.due("version", version + 2, x.told(0, 7));
        check.due("a part of it does again", 1, x.goOn(0));
        check.due("rules 4 when ALLOCATED", 1, ask(x, 0, 2, 4));
        check.due("BACKORDER alone", 4, Packed.rules(x.packed(0)));
        check.due("the same again", 1, ask(x, 0, 2, 4));
        check.due("version when ALLOCATED", version + 5, x.told(0, 7));
    }

    private static void linesThatThereAre() {
        for (int what = 0; what < 3; what++) {
            int at = what;
            check.refusesOutside("change " + what + " of line", Check.NO_SUCH, 0, 0, Promise07ChangeTest::open,
                    (x, v) -> ask(x, v, at, 1));
            check.refusesOutside("change " + what + " of line, when full of lines,", Check.NO_SUCH, 0, 59,
                    Scenes::fullOfLines, (x, v) -> ask(x, v, at, 1));
        }
        OrderRows3 x = Scenes.fullOfLines();
        check.due("the last of 60 lines", 1, ask(x, 59, 0, 999));
        check.due("wanted there", 999, Packed.wanted(x.packed(59)));
        check.due("wanted by the line before", 59, Packed.wanted(x.packed(58)));
    }

    private static void whats() {
        check.refusesOutside("change of what", Check.ARGUMENT, 0, 2, Promise07ChangeTest::open,
                (x, v) -> ask(x, 0, v, 1));
        for (int what = 0; what < 3; what++) {
            int at = what;
            check.answers("change of what " + what, 1, Promise07ChangeTest::open, x -> ask(x, 0, at, 1));
        }
    }

    private static void wantedPieces() {
        check.range("wants", 1, 1000, Promise07ChangeTest::open, (x, v) -> ask(x, 0, 0, v),
                x -> Packed.wanted(x.packed(0)));
    }

    private static void goodsInstead() {
        check.range("instead", 0, 15, Promise07ChangeTest::open, (x, v) -> ask(x, 0, 1, v),
                x -> Packed.insteadAndOne(x.packed(0)) - 1);
    }

    private static void rulesInRange() {
        check.range("rules", 0, 7, Promise07ChangeTest::open, (x, v) -> ask(x, 0, 2, v),
                x -> Packed.rules(x.packed(0)));
        check.range("rules when ALLOCATED", 0, 7, () -> Scenes.atPhase(Scenes.ALLOCATED), (x, v) -> ask(x, 0, 2, v),
                x -> Packed.rules(x.packed(0)));
    }

    private static void phases() {
        for (int what = 0; what < 3; what++) {
            int at = what;
            check.answers("change " + what + " when OPEN", 1, Promise07ChangeTest::open, x -> ask(x, 0, at, 5));
        }
        check.keeps("wanted when ALLOCATED", 0, () -> Scenes.atPhase(Scenes.ALLOCATED), x -> ask(x, 0, 0, 5));
        check.keeps("instead when ALLOCATED", 0, () -> Scenes.atPhase(Scenes.ALLOCATED), x -> ask(x, 0, 1, 5));
        check.answers("rules when ALLOCATED", 1, () -> Scenes.atPhase(Scenes.ALLOCATED), x -> ask(x, 0, 2, 5));
        for (int phase = Scenes.PICKING; phase <= Scenes.CLOSED; phase++) {
            int late = phase;
            for (int what = 0; what < 3; what++) {
                int at = what;
                check.keeps("change " + what + " in phase " + phase, 0,
                        () -> Scenes.atPhase(late), x -> ask(x, 0, at, 5));
            }
        }
    }

    /** "where the phase lets it": else it is false, whatever the rules and the good are. */
    private static void phaseBeforeRules() {
        for (int phase = Scenes.ALLOCATED; phase <= Scenes.CLOSED; phase++) {
            int at = phase;
            check.keeps("the good itself in phase " + at, 0, () -> Scenes.atPhase(at), x -> ask(x, 0, 1, 2));
            check.keeps("instead without the rule in phase " + at, 0,
                    () -> Scenes.atPhase(at, 1), x -> ask(x, 0, 1, 5));
        }
    }

    private static void notLive() {
        for (int phase = Scenes.OPEN; phase <= Scenes.GONE; phase++) {
            for (int what = 0; what < 3; what++) {
                int at = phase;
                int changed = what;
                check.refuses("change " + what + " of a cancelled line in phase " + at, Check.STATE,
                        () -> Scenes.cancelledBesideLive(at), x -> ask(x, 0, changed, 5));
            }
        }
        for (int what = 0; what < 3; what++) {
            int changed = what;
            check.refuses("change " + what + " of a line of a CANCELLED order", Check.STATE,
                    () -> Scenes.atPhase(Scenes.CANCELLED), x -> ask(x, 0, changed, 5));
        }
    }

    private static void blockedOrMerged() {
        check.answers("wanted of a blocked order", 1,
                Scenes.then(Promise07ChangeTest::open, x -> x.block(0, 1, true)), x -> ask(x, 0, 0, 3));
        OrderRows3 merged = Scenes.atPhase(Scenes.MERGED);
        check.due("wanted of a line that came to another order", 1, ask(merged, 0, 0, 3));
        check.due("the version there", 3, merged.told(1, 7));
        check.due("the merged one's version", 4, merged.told(0, 7));
    }
}
