public final class Promise11BlockTest {
    private static final Check check = new Check("promise 11");

    public static void main(String[] args) {
        blocks();
        phases();
        refusals();
        check.end();
    }

    private static void blocks() {
        OrderRows3 x = Scenes.atPhase(Scenes.OPEN);
        int version = x.told(0, 7);
        for (int person = 0; person < 8; person++) {
            check.due("block by " + person, person + 1, x.block(0, person, true));
            check.due("bits", (2 << person) - 1, x.told(0, 5));
        }
        check.due("person 3 no more", 7, x.block(0, 3, false));
        check.due("bits without 3", 255 - 8, x.told(0, 5));
        check.due("version", version + 9, x.told(0, 7));
        check.due("person 3 again", 8, x.block(0, 3, true));
    }

    private static void phases() {
        for (int phase = Scenes.OPEN; phase <= Scenes.PACKED; phase++) {
            OrderRows3 x = Scenes.atPhase(phase);
            check.due("block in phase " + phase, 1, x.block(0, 7, true));
            check.due("and no more", 0, x.block(0, 7, false));
        }
        for (int phase = Scenes.GONE; phase <= Scenes.MERGED; phase++) {
            int at = phase;
            check.refuses("block in phase " + at, Check.STATE, () -> Scenes.atPhase(at), x -> x.block(0, 7, true));
            check.refuses("a wrong person in phase " + at, Check.ARGUMENT,
                    () -> Scenes.atPhase(at), x -> x.block(0, 8, true));
        }
        check.refuses("no more, when CANCELLED", Check.STATE,
                Promise11BlockTest::blockedAndCancelled, x -> x.block(0, 1, false));
    }

    private static OrderRows3 blocked() {
        OrderRows3 x = Scenes.atPhase(Scenes.OPEN);
        x.block(0, 1, true);
        return x;
    }

    private static OrderRows3 blockedAndCancelled() {
        OrderRows3 x = blocked();
        x.cancel(0);
        return x;
    }

    private static void refusals() {
        refuses(Check.NO_SUCH, -1, 0, true);
        refuses(Check.NO_SUCH, 1, 0, true);
        refuses(Check.NO_SUCH, 1, 8, true);
        refuses(Check.ARGUMENT, 0, -1, true);
        refuses(Check.ARGUMENT, 0, 8, true);
        refuses(Check.ARGUMENT, 0, 33, false);
        refuses(Check.STATE, 0, 1, true);
        refuses(Check.STATE, 0, 0, false);
    }

    private static void refuses(Class<? extends RuntimeException> due, int order, int person, boolean on) {
        check.refuses("block(" + order + ", " + person + ", " + on + ")", due,
                Promise11BlockTest::blocked, x -> x.block(order, person, on));
    }
}
