public final class Promise09CancelTest {
    private static final Check check = new Check("promise 9");

    public static void main(String[] args) {
        lastLine();
        oneOfTwo();
        piecesThatAreFree();
        linesThatThereAre();
        notLive();
        packedOrFurther();
        lastOfEight();
        blockedOrMerged();
        check.end();
    }

    private static void lastLine() {
        for (int phase = Scenes.OPEN; phase <= Scenes.PICKING; phase++) {
            OrderRows3 x = Scenes.atPhase(phase);
            int version = x.told(0, 7);
            check.due("cancel in phase " + phase, 6, x.cancel(0));
            check.due("the order is CANCELLED", Scenes.CANCELLED, x.told(0, 0));
            check.due("version", version + 1, x.told(0, 7));
            check.due("lines, cancelled ones counted", 1, x.told(0, 6));
            check.due("good 2 and rules 3 alone", 2 | 3 << 9, x.packed(0));
            check.due("count(2)", 0, x.count(2));
            check.due("short", 0, x.told(0, 9));
        }
    }

    private static void oneOfTwo() {
        OrderRows3 x = Scenes.pickingTwoLines();
        check.due("held 6, picked 2", 6, x.cancel(0));
        check.due("picked then", 0, Packed.picked(x.packed(0)));
        check.due("held then", 0, Packed.held(x.packed(0)));
        check.due("wanted then", 0, Packed.wanted(x.packed(0)));
        check.due("live then", 0, Packed.live(x.packed(0)));
        check.due("the order goes on PICKING", Scenes.PICKING, x.told(0, 0));
        check.due("the line stays in its place", 0, x.lineOf(0, 0));
        check.due("nothing held", 0, x.cancel(1));
        check.due("the last one", Scenes.CANCELLED, x.told(0, 0));
        OrderRows3 other = Scenes.pickingTwoLines();
        other.cancel(1);
        check.due("the second one", Scenes.PICKING, other.told(0, 0));
        check.due("the first one stays live", 1, Packed.live(other.packed(0)));
    }

    private static void piecesThatAreFree() {
        check.answers("none held", 0, () -> Scenes.wants(1000, 0), x -> x.cancel(0));
        check.answers("one held", 1, Scenes.then(() -> Scenes.wants(1000, 0), x -> x.hold(0, 1)), x -> x.cancel(0));
        check.answers("all of 1000 held", 1000, Scenes.then(() -> Scenes.wants(1000, 0), x -> x.hold(0, 1000)),
                x -> x.cancel(0));
        check.answers("all that is held is picked", 6, Scenes.then(() -> Scenes.atPhase(Scenes.PICKING),
                x -> x.pick(0, 6)), x -> x.cancel(0));
    }

    private static void linesThatThereAre() {
        check.refusesOutside("cancel of line", Check.NO_SUCH, 0, 0, () -> Scenes.atPhase(Scenes.OPEN),
                (x, v) -> x.cancel(v));
        check.refusesOutside("cancel of line, when full of lines,", Check.NO_SUCH, 0, 59, Scenes::fullOfLines,
                (x, v) -> x.cancel(v));
        check.answers("cancel of the last of 60 lines", 7, Scenes.then(Scenes::fullOfLines, x -> x.hold(59, 7)),
                x -> x.cancel(59));
    }

    private static void notLive() {
        for (int phase = Scenes.OPEN; phase <= Scenes.GONE; phase++) {
            int at = phase;
            check.refuses("a cancelled line in phase " + at, Check.STATE,
                    () -> Scenes.cancelledBesideLive(at), x -> x.cancel(0));
        }
        check.refuses("a line of a CANCELLED order", Check.STATE,
                () -> Scenes.atPhase(Scenes.CANCELLED), x -> x.cancel(0));
    }

    private static void packedOrFurther() {
        check.answers("cancel when PICKING", 6, () -> Scenes.atPhase(Scenes.PICKING), x -> x.cancel(0));
        for (int phase = Scenes.PACKED; phase <= Scenes.CLOSED; phase++) {
            int at = phase;
            check.refuses("cancel in phase " + at, Check.STATE, () -> Scenes.atPhase(at), x -> x.cancel(0));
        }
        check.refuses("cancel of a backordered line", Check.STATE, Scenes::closedAndBackordered, x -> x.cancel(0));
    }

    private static void lastOfEight() {
        OrderRows3 x = Scenes.eightLines();
        for (int line = 7; line > 0; line--) {
            x.cancel(line);
            check.due("OPEN with " + line + " live lines", Scenes.OPEN, x.told(0, 0));
        }
        x.cancel(0);
        check.due("CANCELLED with none", Scenes.CANCELLED, x.told(0, 0));
        check.due("all eight counted", 8, x.told(0, 6));
    }

    private static void blockedOrMerged() {
        OrderRows3 x = Scenes.atPhase(Scenes.OPEN);
        x.block(0, 1, true);
        check.due("a blocked order's line", 6, x.cancel(0));
        check.due("the block stays", 2, x.told(0, 5));
        OrderRows3 merged = Scenes.atPhase(Scenes.MERGED);
        check.due("a line that came to another order", 6, merged.cancel(0));
        check.due("that order is CANCELLED", Scenes.CANCELLED, merged.told(1, 0));
        check.due("the other stays MERGED", Scenes.MERGED, merged.told(0, 0));
    }
}
