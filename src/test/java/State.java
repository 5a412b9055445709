/**
 * All that an object tells of itself, as one text. The largest takes fewer than 370 calls; the rows end at their
 * limits too, so that a program that never tells their end fails here instead of running on.
 */
final class State {
    private static final int MOST_ORDERS = 20;
    private static final int MOST_LINES_OF_ORDER = 8;

    private State() {
    }

    static String of(OrderRows3 x) {
        StringBuilder text = new StringBuilder();
        for (int what = 0; what < 4; what++) {
            text.append(x.count(what)).append(' ');
        }
        int orders = x.count(0);
        for (int order = 0; order < orders; order++) {
            addOrder(text, x, order);
        }
        int lines = x.count(1);
        for (int line = 0; line < lines; line++) {
            text.append("| line ").append(line).append(": ").append(Long.toHexString(x.packed(line))).append(' ');
        }
        addReady(text, x);
        return text.toString();
    }

    private static void addOrder(StringBuilder text, OrderRows3 x, int order) {
        text.append("| order ").append(order).append(':');
        for (int what = 0; what < 10; what++) {
            text.append(' ').append(x.told(order, what));
        }
        text.append(" of");
        int line = 0;
        for (int i = 0; line >= 0 && i <= MOST_LINES_OF_ORDER; i++) {
            line = x.lineOf(order, i);
            text.append(' ').append(line);
        }
    }

    private static void addReady(StringBuilder text, OrderRows3 x) {
        text.append("| ready");
        int order = 0;
        for (int i = 0; order >= 0 && i <= MOST_ORDERS; i++) {
            order = x.ready(i);
            text.append(' ').append(order);
        }
    }
}
