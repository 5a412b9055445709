public final class Promise04HoldTest {
    private static final Check check = new Check("promise 4");

    public static void main(String[] args) {
        holdsMore();
        linesThatThereAre();
        pieces();
        openOrAllocated();
        notLive();
        notAboveWanted();
        notAboveWhatIsWantedThen();
        blockedToo();
        check.end();
    }

    private static OrderRows3 wantsTen() {
        return Scenes.wants(10, 1);
    }

    private static OrderRows3 wantsThousand() {
        return Scenes.wants(1000, 1);
    }

    private static void holdsMore() {
        OrderRows3 x = wantsTen();
        check.due("hold(0, 1)", 1, x.hold(0, 1));
        check.due("hold(0, 4)", 5, x.hold(0, 4));
        check.due("version", 4, x.told(0, 7));
        check.due("count(2)", 5, x.count(2));
        check.due("held", 5, Packed.held(x.packed(0)));
        check.due("all that is wanted", 10, x.hold(0, 5));
    }

    private static void linesThatThereAre() {
        check.refusesOutside("hold of line", Check.NO_SUCH, 0, 0, Promise04HoldTest::wantsTen,
                (x, v) -> x.hold(v, 1));
        check.refusesOutside("hold of line, when full of lines,", Check.NO_SUCH, 0, 59, Scenes::fullOfLines,
                (x, v) -> x.hold(v, 1));
        check.answers("hold of the first line", 1, Scenes::fullOfLines, x -> x.hold(0, 1));
        check.answers("hold of the last line", 60, Scenes::fullOfLines, x -> x.hold(59, 60));
    }

    private static void pieces() {
        check.range("pieces held", 1, 1000, Promise04HoldTest::wantsThousand, (x, v) -> x.hold(0, v),
                x -> Packed.held(x.packed(0)));
    }

    private static void openOrAllocated() {
        check.answers("OPEN", 10, () -> Scenes.atPhase(Scenes.OPEN), x -> x.hold(0, 4));
        check.answers("ALLOCATED", 10, () -> Scenes.atPhase(Scenes.ALLOCATED), x -> x.hold(0, 4));
        for (int phase = Scenes.PICKING; phase <= Scenes.CANCELLED; phase++) {
            int at = phase;
            check.refuses("hold in phase " + at, Check.STATE, () -> Scenes.atPhase(at), x -> x.hold(0, 1));
        }
        OrderRows3 merged = Scenes.atPhase(Scenes.MERGED);
        check.due("a line that came to another order", 7, merged.hold(0, 1));
        check.due("the version there", 3, merged.told(1, 7));
        check.due("the merged one's version", 4, merged.told(0, 7));
    }

    private static void notLive() {
        for (int phase = Scenes.OPEN; phase <= Scenes.ALLOCATED; phase++) {
            int at = phase;
            check.refuses("a cancelled line in phase " + at, Check.STATE,
                    () -> Scenes.cancelledBesideLive(at), x -> x.hold(0, 1));
            check.answers("a live line beside a cancelled one in phase " + at, 10,
                    () -> Scenes.cancelledBesideLive(at), x -> x.hold(1, 10));
        }
    }

    private static void notAboveWanted() {
        check.answers("all of 10", 10, Promise04HoldTest::wantsTen, x -> x.hold(0, 10));
        check.refuses("11 of 10", Check.STATE, Promise04HoldTest::wantsTen, x -> x.hold(0, 11));
        check.refuses("1000 of 10", Check.STATE, Promise04HoldTest::wantsTen, x -> x.hold(0, 1000));
        for (int phase = Scenes.OPEN; phase <= Scenes.ALLOCATED; phase++) {
            int at = phase;
            check.answers("6 and 4 of 10 in phase " + at, 10, () -> Scenes.atPhase(at), x -> x.hold(0, 4));
            check.refuses("6 and 5 of 10 in phase " + at, Check.STATE, () -> Scenes.atPhase(at), x -> x.hold(0, 5));
        }
        Check.Scene allHeld = Scenes.then(Promise04HoldTest::wantsThousand, x -> x.hold(0, 1000));
        check.refuses("1 above 1000", Check.STATE, allHeld, x -> x.hold(0, 1));
        check.refuses("1000 above 1000", Check.STATE, allHeld, x -> x.hold(0, 1000));
        check.refuses("2 of 1", Check.STATE, () -> Scenes.wants(1, 0), x -> x.hold(0, 2));
        check.answers("1 of 1", 1, () -> Scenes.wants(1, 0), x -> x.hold(0, 1));
    }

    private static void notAboveWhatIsWantedThen() {
        Check.Scene fewer = Scenes.then(Promise04HoldTest::wantsTen, x -> x.change(0, 0, 3) ? 1 : 0);
        check.answers("3 of 3", 3, fewer, x -> x.hold(0, 3));
        check.refuses("4 of 3", Check.STATE, fewer, x -> x.hold(0, 4));
        Check.Scene more = Scenes.then(Promise04HoldTest::wantsTen, x -> x.change(0, 0, 11) ? 1 : 0);
        check.answers("11 of 11", 11, more, x -> x.hold(0, 11));
        check.refuses("12 of 11", Check.STATE, more, x -> x.hold(0, 12));
    }

    private static void blockedToo() {
        check.answers("blocked", 7, Scenes.then(() -> Scenes.atPhase(Scenes.OPEN), x -> x.block(0, 2, true)),
                x -> x.hold(0, 1));
    }
}
