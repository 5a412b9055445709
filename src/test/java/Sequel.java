/**
 * What an object answers to one row of further calls, as a text: it shows what State can't see.
 * The largest takes fewer than 330 calls.
 */
final class Sequel {
    private final OrderRows3 x;
    private final StringBuilder text = new StringBuilder();

    private Sequel(OrderRows3 x) {
        this.x = x;
    }

    static String of(OrderRows3 x) {
        Sequel sequel = new Sequel(x);
        int orders = x.count(0);
        int lines = x.count(1);
        sequel.ask(y -> y.order(7, 99998, 5, 5));
        sequel.askEach(orders, (y, order) -> y.line(order, 3, 5, 4));
        sequel.askEach(lines, (y, line) -> y.hold(line, 1));
        sequel.askEach(orders, (y, order) -> y.goOn(order));
        sequel.askEach(orders, (y, order) -> y.goOn(order));
        sequel.askEach(lines, (y, line) -> y.pick(line, 1));
        sequel.askEach(orders, (y, order) -> y.goOn(order));
        sequel.askEach(lines, (y, line) -> y.backorder(line));
        sequel.askEach(lines, (y, line) -> y.cancel(line));
        return sequel.text.toString();
    }

    private void ask(Check.Call call) {
        text.append(Check.outcome(x, call)).append(' ');
    }

    private void askEach(int count, Check.Ask ask) {
        for (int k = 0; k < count; k++) {
            int at = k;
            ask(y -> ask.with(y, at));
        }
        text.append("| ");
    }
}
