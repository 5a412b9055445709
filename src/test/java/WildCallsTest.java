import java.util.ArrayList;
import java.util.List;
import java.util.Random;

/**
 * Long runs of calls with numbers at, inside and outside their ranges: each throws nothing but what its face names,
 * the rows stay within what the document allows, and what is refused changes nothing.
 */
public final class WildCallsTest {
    private static final int RUNS = 1500;
    private static final int CALLS = 130;
    private static final int[] WILD = {Integer.MIN_VALUE, -1, 20, 60, 1000, 1001, 10001, Integer.MAX_VALUE};
    private static final String[] NAMES = {"order", "line", "hold", "pick", "goOn", "change", "move", "cancel", "join",
        "block", "backorder", "ready", "told", "lineOf", "packed", "count"};
    private static final String[] MAY_THROW = {"AR", "EASR", "EAS", "EAS", "ES", "EAS", "EA", "ES", "ESR",
        "EAS", "ESR", "A", "EA", "EA", "E", ""};

    // What carries an order to its end comes often, what stops it seldom; else few runs would get past ALLOCATED.
    private static final int[] KINDS = {0, 1, 1, 2, 2, 2, 2, 3, 3, 3, 3, 4, 4, 4, 4, 4, 4, 5, 6, 7, 8, 9, 10, 10, 10};

    private final Check check;
    private final Random random;
    private final List<Check.Call> done = new ArrayList<>();

    private WildCallsTest(Check check, long seed) {
        this.check = check;
        random = new Random(seed);
    }

    public static void main(String[] args) {
        Check check = new Check("wild calls");
        for (int run = 0; run < RUNS; run++) {
            new WildCallsTest(check, run).run(run);
        }
        check.end();
    }

    private void run(int run) {
        OrderRows3 x = new OrderRows3();
        for (int k = 0; k < CALLS; k++) {
            int kind = random.nextInt(9) == 0 ? random.nextInt(NAMES.length) : KINDS[random.nextInt(KINDS.length)];
            Check.Call call = someCall(kind);
            String outcome = Check.outcome(x, call);
            check.due("run " + run + ", call " + k + ", " + NAMES[kind] + " " + outcome, 1, mayCome(kind, outcome));
            if (!outcome.startsWith("java.")) {
                done.add(call);
            }
        }
        String state = State.of(x);
        check.due("run " + run + " without what was refused", again(), state);
        withinLimits(run);
    }

    private static long mayCome(int kind, String outcome) {
        switch (outcome) {
            case "java.util.NoSuchElementException": return MAY_THROW[kind].contains("E") ? 1 : 0;
            case "java.lang.IllegalArgumentException": return MAY_THROW[kind].contains("A") ? 1 : 0;
            case "java.lang.IllegalStateException": return MAY_THROW[kind].contains("S") ? 1 : 0;
            case "java.lang.UnsupportedOperationException": return MAY_THROW[kind].contains("R") ? 1 : 0;
            default: return outcome.startsWith("java.") ? 0 : 1;
        }
    }

    private OrderRows3 madeAgain() {
        OrderRows3 x = new OrderRows3();
        for (Check.Call call : done) {
            call.on(x);
        }
        return x;
    }

    private String again() {
        return State.of(madeAgain());
    }

    private void withinLimits(int run) {
        OrderRows3 x = madeAgain();
        int lines = x.count(1);
        int held = 0;
        int shipped = 0;
        for (int line = 0; line < lines; line++) {
            long row = x.packed(line);
            int phase = x.told((int) Packed.order(row), 0);
            boolean fits = Packed.picked(row) <= Packed.held(row) && Packed.held(row) <= Packed.wanted(row)
                    && Packed.wanted(row) <= 1000 && phase != Scenes.MERGED;
            boolean cancelled = Packed.wanted(row) == 0;
            check.due("run " + run + ": the pieces of line " + line + " fit", 1, fits ? 1 : 0);
            check.due("run " + run + ": line " + line + " is live", cancelled ? 0 : 1, Packed.live(row));
            check.due("run " + run + ": line " + line + " shipped", gone(phase) ? Packed.picked(row) : 0,
                    Packed.shipped(row));
            held += phase < Scenes.GONE ? (int) Packed.held(row) : 0;
            shipped += (int) Packed.shipped(row);
        }
        check.due("run " + run + ": at most 20 orders", 1, x.count(0) <= 20 ? 1 : 0);
        check.due("run " + run + ": at most 60 lines", 1, lines <= 60 ? 1 : 0);
        check.due("run " + run + ": count(2)", held, x.count(2));
        check.due("run " + run + ": count(3)", shipped, x.count(3));
    }

    private static boolean gone(int phase) {
        return phase == Scenes.GONE || phase == Scenes.CLOSED;
    }

    private int some(int least, int most) {
        return random.nextInt(40) == 0 ? WILD[random.nextInt(WILD.length)] : least + random.nextInt(most - least + 1);
    }

    private Check.Call someCall(int kind) {
        int order = some(0, 3);
        int line = some(0, 5);
        int small = some(0, 9);
        int pieces = some(1, 6);
        int rules = some(0, 7);
        boolean on = random.nextInt(4) == 0;
        switch (kind) {
            case 0: return x -> x.order(rules % 2, small, pieces, small);
            case 1: return x -> x.line(order, small, pieces, rules);
            case 2: return x -> x.hold(line, pieces);
            case 3: return x -> x.pick(line, pieces);
            case 4: return x -> x.goOn(order);
            case 5: return x -> x.change(line, small % 4, rules) ? 1 : 0;
            case 6: return x -> x.move(order, small) ? 1 : 0;
            case 7: return x -> x.cancel(line);
            case 8: return x -> joined(x, order, small);
            case 9: return x -> x.block(order, rules, on);
            case 10: return x -> x.backorder(line);
            case 11: return x -> x.ready(small);
            case 12: return x -> x.told(order, small);
            case 13: return x -> x.lineOf(order, small);
            case 14: return x -> x.packed(line);
            default: return x -> x.count(small);
        }
    }

    private static long joined(OrderRows3 x, int order, int other) {
        x.join(order, other);
        return 0;
    }
}
