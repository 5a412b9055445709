public final class Promise08MoveTest {
    private static final Check check = new Check("promise 8");

    public static void main(String[] args) {
        moves();
        tooLate();
        refusals();
        check.end();
    }

    private static long ask(OrderRows3 x, int order, int day) {
        return x.move(order, day) ? 1 : 0;
    }

    private static void moves() {
        for (int phase = Scenes.OPEN; phase <= Scenes.PACKED; phase++) {
            OrderRows3 x = Scenes.atPhase(phase);
            int version = x.told(0, 7);
            check.due("day 0 in phase " + phase, 1, ask(x, 0, 0));
            check.due("the day then", 0, x.told(0, 4));
            check.due("day 10000 in phase " + phase, 1, ask(x, 0, 10000));
            check.due("the last day then", 10000, x.told(0, 4));
            check.due("version", version + 2, x.told(0, 7));
            check.due("phase as before", phase, x.told(0, 0));
        }
        OrderRows3 blocked = Scenes.atPhase(Scenes.OPEN);
        blocked.block(0, 1, true);
        check.due("a blocked order", 1, ask(blocked, 0, 3));
    }

    private static void tooLate() {
        for (int phase = Scenes.GONE; phase <= Scenes.MERGED; phase++) {
            int at = phase;
            check.keeps("move in phase " + at, 0, () -> Scenes.atPhase(at), x -> ask(x, 0, 5));
            check.refuses("a wrong day in phase " + at, Check.ARGUMENT,
                    () -> Scenes.atPhase(at), x -> ask(x, 0, 10001));
        }
    }

    private static void refusals() {
        refuses(Check.NO_SUCH, -1, 5);
        refuses(Check.NO_SUCH, 1, 5);
        refuses(Check.NO_SUCH, 1, -1);
        refuses(Check.ARGUMENT, 0, -1);
        refuses(Check.ARGUMENT, 0, 10001);
    }

    private static void refuses(Class<? extends RuntimeException> due, int order, int day) {
        check.refuses("move(" + order + ", " + day + ")", due,
                () -> Scenes.atPhase(Scenes.OPEN), x -> ask(x, order, day));
    }
}
