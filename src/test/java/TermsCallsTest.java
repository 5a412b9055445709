/** "An object is used for at most 512 calls": the last of them is answered as the first ones are. */
public final class TermsCallsTest {
    private static final Check check = new Check("512 calls");
    private static final int CALLS = 512;

    public static void main(String[] args) {
        greatestVersion();
        allRefused();
        allTelling();
        check.end();
    }

    private static void greatestVersion() {
        OrderRows3 x = new OrderRows3();
        x.order(0, 1, 1, 0);
        for (int call = 2; call < CALLS; call++) {
            boolean on = call % 2 == 0;
            check.due("call " + call, on ? 1 : 0, x.block(0, 7, on));
        }
        check.due("the version, at the last call", CALLS - 1, x.told(0, 7));
    }

    private static void allRefused() {
        OrderRows3 x = new OrderRows3();
        for (int call = 1; call < CALLS; call++) {
            int at = call;
            check.due("call " + call, "java.lang.IllegalArgumentException",
                    Check.outcome(x, y -> y.order(0, -at, 1, 0)));
        }
        check.due("the first order, at the last call", 0, x.order(0, 1, 1, 0));
    }

    private static void allTelling() {
        OrderRows3 x = Scenes.full();
        for (int call = 81; call < CALLS; call++) {
            int line = call % 60;
            check.due("call " + call, line % 20, Packed.order(x.packed(line)));
        }
        check.due("the last order by priority, at the last call", 17, x.ready(19));
    }
}
