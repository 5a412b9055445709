public final class Promise01NewObjectTest {
    public static void main(String[] args) {
        Check check = new Check("promise 1");
        OrderRows3 x = new OrderRows3();
        for (int what = 0; what < 4; what++) {
            check.due("count(" + what + ")", 0, x.count(what));
        }
        check.due("ready(0)", -1, x.ready(0));
        check.refuses("told(0, 0)", Check.NO_SUCH, OrderRows3::new, y -> y.told(0, 0));
        check.refuses("lineOf(0, 0)", Check.NO_SUCH, OrderRows3::new, y -> y.lineOf(0, 0));
        check.refuses("packed(0)", Check.NO_SUCH, OrderRows3::new, y -> y.packed(0));
        check.refuses("goOn(0)", Check.NO_SUCH, OrderRows3::new, y -> y.goOn(0));
        sharesNothing(check);
        check.end();
    }

    private static void sharesNothing(Check check) {
        OrderRows3 one = new OrderRows3();
        OrderRows3 two = new OrderRows3();
        one.order(1, 1, 1, 1);
        one.line(0, 1, 1, 1);
        check.due("count(0) of another object", 0, two.count(0));
        check.due("count(1) of another object", 0, two.count(1));
        check.due("the same order of another object", 0, two.order(1, 1, 1, 1));
    }
}
