/** "No orders": the empty object, asked with every call. */
public final class Promise01NewObjectTest {
    private static final Check check = new Check("promise 1");

    public static void main(String[] args) {
        countsNothing();
        nobodyWaits();
        hasNoOrder();
        hasNoLine();
        refusesWrongOrders();
        takesTheFirstOrder();
        sharesNothing();
        check.end();
    }

    private static void countsNothing() {
        for (int what = 0; what < 4; what++) {
            int at = what;
            check.keeps("count(" + what + ")", 0, OrderRows3::new, x -> x.count(at));
        }
        for (int what : new int[] {Integer.MIN_VALUE, -1, 4, Integer.MAX_VALUE}) {
            check.keeps("count(" + what + ")", -1, OrderRows3::new, x -> x.count(what));
        }
    }

    private static void nobodyWaits() {
        for (int i : new int[] {0, 1, 19, 20, Integer.MAX_VALUE}) {
            check.keeps("ready(" + i + ")", -1, OrderRows3::new, x -> x.ready(i));
        }
        check.refuses("ready(-1)", Check.ARGUMENT, OrderRows3::new, x -> x.ready(-1));
        check.refuses("ready of the least int", Check.ARGUMENT, OrderRows3::new, x -> x.ready(Integer.MIN_VALUE));
    }

    private static void noSuch(String what, Check.Ask ask) {
        check.refusesOutside(what, Check.NO_SUCH, 0, -1, OrderRows3::new, ask);
    }

    private static void hasNoOrder() {
        noSuch("line of order", (x, v) -> x.line(v, 0, 1, 0));
        noSuch("goOn of order", (x, v) -> x.goOn(v));
        noSuch("move of order", (x, v) -> x.move(v, 0) ? 1 : 0);
        noSuch("join with itself of order", (x, v) -> Scenes.join(x, v, v));
        noSuch("join with 0 of order", (x, v) -> Scenes.join(x, v, 0));
        noSuch("join to 0 of order", (x, v) -> Scenes.join(x, 0, v));
        noSuch("block of order", (x, v) -> x.block(v, 0, true));
        noSuch("no more block of order", (x, v) -> x.block(v, 0, false));
        noSuch("told of order", (x, v) -> x.told(v, 0));
        noSuch("lineOf of order", (x, v) -> x.lineOf(v, 0));
    }

    private static void hasNoLine() {
        noSuch("hold of line", (x, v) -> x.hold(v, 1));
        noSuch("pick of line", (x, v) -> x.pick(v, 1));
        noSuch("wanted of line", (x, v) -> x.change(v, 0, 1) ? 1 : 0);
        noSuch("instead of line", (x, v) -> x.change(v, 1, 0) ? 1 : 0);
        noSuch("rules of line", (x, v) -> x.change(v, 2, 0) ? 1 : 0);
        noSuch("cancel of line", (x, v) -> x.cancel(v));
        noSuch("backorder of line", (x, v) -> x.backorder(v));
        noSuch("packed of line", (x, v) -> x.packed(v));
    }

    private static void refusesWrongOrders() {
        check.refuses("order(-1, 1, 1, 0)", Check.ARGUMENT, OrderRows3::new, x -> x.order(-1, 1, 1, 0));
        check.refuses("order(0, 0, 1, 0)", Check.ARGUMENT, OrderRows3::new, x -> x.order(0, 0, 1, 0));
        check.refuses("order(0, 1, 0, 0)", Check.ARGUMENT, OrderRows3::new, x -> x.order(0, 1, 0, 0));
        check.refuses("order(0, 1, 1, -1)", Check.ARGUMENT, OrderRows3::new, x -> x.order(0, 1, 1, -1));
    }

    private static void takesTheFirstOrder() {
        OrderRows3 x = new OrderRows3();
        check.due("the first order", 0, x.order(0, 1, 1, 0));
        check.due("the first line", 0, x.line(0, 0, 1, 0));
    }

    private static void sharesNothing() {
        OrderRows3 one = new OrderRows3();
        OrderRows3 two = new OrderRows3();
        one.order(1, 1, 1, 1);
        one.line(0, 1, 1, 1);
        check.due("count(0) of another object", 0, two.count(0));
        check.due("count(1) of another object", 0, two.count(1));
        check.due("the same order of another object", 0, two.order(1, 1, 1, 1));
    }
}
