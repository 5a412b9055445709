/**
 * "PHASES": what each call answers in each of them, from OPEN to MERGED; S is an IllegalStateException.
 * What is refused, false or -1 there changes nothing.
 */
public final class TermsPhasesTest {
    private static final Check check = new Check("phases");
    private static final String REFUSED = "S";

    public static void main(String[] args) {
        onTheOrder();
        onTheLine();
        onTheLineOfAMergedOrder();
        waiting();
        cancelledLinesWantNothing();
        check.end();
    }

    /** Order 0 in the phase, its line 0 wants 10 and holds 6; there is an OPEN order of its customer beside it. */
    private static OrderRows3 scene(int phase, int rules) {
        OrderRows3 x = Scenes.atPhase(phase, rules);
        if (phase != Scenes.MERGED) {
            x.order(3, 51, 4, 70);
        }
        return x;
    }

    private static void row(String what, int rules, Check.Call call, String... due) {
        for (int phase = Scenes.OPEN; phase < due.length; phase++) {
            int at = phase;
            String name = what + " in phase " + at;
            Check.Scene made = () -> scene(at, rules);
            if (due[at].equals(REFUSED)) {
                check.refuses(name, Check.STATE, made, call);
            } else if (due[at].equals("false")) {
                check.keeps(name, 0, made, call);
            } else if (due[at].equals("-1")) {
                check.keeps(name, -1, made, call);
            } else {
                check.answers(name, due[at].equals("true") ? 1 : Long.parseLong(due[at]), made, call);
            }
        }
    }

    private static void onTheOrder() {
        row("line", 3, x -> x.line(0, 1, 1, 0), "1", "S", "S", "S", "S", "S", "S", "S");
        row("goOn", 3, x -> x.goOn(0), "1", "2", "-1", "4", "5", "S", "S", "S");
        row("goOn, not to be PARTIAL", 0, x -> x.goOn(0), "-1");
        row("goOn, for BACKORDER", 4, x -> x.goOn(0), "1", "2", "-1", "4", "-1");
        row("move", 3, x -> x.move(0, 0) ? 1 : 0, "true", "true", "true", "true", "false", "false", "false", "false");
        row("join of the other", 3, x -> Scenes.join(x, 0, 1), "0", "S", "S", "S", "S", "S", "S", "S");
        row("join to the other", 3, x -> Scenes.join(x, 1, 0), "0", "S", "S", "S", "S", "S", "S", "S");
        row("block", 3, x -> x.block(0, 0, true), "1", "1", "1", "1", "S", "S", "S", "S");
        row("no more block", 3, x -> x.block(0, 0, false), "S", "S", "S", "S", "S", "S", "S", "S");
        row("told 0", 3, x -> x.told(0, 0), "0", "1", "2", "3", "4", "5", "6", "7");
        row("told 6", 3, x -> x.told(0, 6), "1", "1", "1", "1", "1", "1", "1", "0");
        row("told 9", 3, x -> x.told(0, 9), "0", "0", "0", "0", "4", "4", "0", "0");
        row("lineOf", 3, x -> x.lineOf(0, 0), "0", "0", "0", "0", "0", "0", "0", "-1");
        row("count 2", 3, x -> x.count(2), "6", "6", "6", "6", "0", "0", "0", "6");
        row("count 3", 3, x -> x.count(3), "0", "0", "0", "0", "6", "6", "0", "0");
    }

    private static void onTheLine() {
        row("hold", 3, x -> x.hold(0, 1), "7", "7", "S", "S", "S", "S", "S");
        row("pick", 3, x -> x.pick(0, 1), "S", "S", "1", "S", "S", "S", "S");
        row("wanted", 3, x -> x.change(0, 0, 5) ? 1 : 0, "true", "false", "false", "false", "false", "false", "S");
        row("instead", 3, x -> x.change(0, 1, 5) ? 1 : 0, "true", "false", "false", "false", "false", "false", "S");
        row("the good itself", 3, x -> x.change(0, 1, 2) ? 1 : 0, "S", "false", "false", "false", "false", "false",
                "S");
        row("instead against the rules", 5, x -> x.change(0, 1, 5) ? 1 : 0, "S", "false", "false", "false", "false");
        row("rules", 3, x -> x.change(0, 2, 5) ? 1 : 0, "true", "true", "false", "false", "false", "false", "S");
        row("cancel", 3, x -> x.cancel(0), "6", "6", "6", "S", "S", "S", "S");
        row("backorder", 7, x -> x.backorder(0), "S", "S", "S", "S", "1");
        row("backorder without the rule", 3, x -> x.backorder(0), "S", "S", "S", "S", "S", "S", "S");
    }

    /** Its lines are those of the OPEN order 1. */
    private static void onTheLineOfAMergedOrder() {
        Check.Scene merged = () -> Scenes.atPhase(Scenes.MERGED);
        check.answers("hold", 7, merged, x -> x.hold(0, 1));
        check.refuses("pick", Check.STATE, merged, x -> x.pick(0, 1));
        check.answers("wanted", 1, merged, x -> x.change(0, 0, 5) ? 1 : 0);
        check.answers("instead", 1, merged, x -> x.change(0, 1, 5) ? 1 : 0);
        check.answers("rules", 1, merged, x -> x.change(0, 2, 5) ? 1 : 0);
        check.answers("cancel", 6, merged, x -> x.cancel(0));
        check.refuses("backorder", Check.STATE, merged, x -> x.backorder(0));
        check.answers("goOn of the order that it came to", 1, merged, x -> x.goOn(1));
    }

    private static void waiting() {
        for (int phase = Scenes.OPEN; phase <= Scenes.MERGED; phase++) {
            int at = phase;
            boolean waits = phase <= Scenes.ALLOCATED;
            check.keeps("ready(0) in phase " + phase, waits ? 0 : 1, () -> scene(at, 3), x -> x.ready(0));
            check.keeps("ready(1) in phase " + phase, waits ? 1 : -1, () -> scene(at, 3), x -> x.ready(1));
        }
    }

    /** "a CANCELLED line wants, holds and has picked 0", from each phase that it can be cancelled in. */
    private static void cancelledLinesWantNothing() {
        for (int phase = Scenes.OPEN; phase <= Scenes.PICKING; phase++) {
            OrderRows3 x = Scenes.atPhase(phase, 3);
            if (phase == Scenes.PICKING) {
                x.pick(0, 6);
            }
            x.cancel(0);
            check.due("live", 0, Packed.live(x.packed(0)));
            check.due("wanted", 0, Packed.wanted(x.packed(0)));
            check.due("held", 0, Packed.held(x.packed(0)));
            check.due("picked", 0, Packed.picked(x.packed(0)));
            check.due("shipped", 0, Packed.shipped(x.packed(0)));
            check.due("good", 2, Packed.good(x.packed(0)));
            check.due("rules", 3, Packed.rules(x.packed(0)));
        }
    }
}
