/** All that an object tells of itself, as one text. The largest takes fewer than 370 calls. */
final class State {
    private State() {
    }

    static String of(OrderRows3 x) {
        StringBuilder text = new StringBuilder();
        for (int what = 0; what < 4; what++) {
            text.append(x.count(what)).append(' ');
        }
        int orders = x.count(0);
        for (int order = 0; order < orders; order++) {
            addOrder(text, x, order);
        }
        int lines = x.count(1);
        for (int line = 0; line < lines; line++) {
            text.append("| line ").append(line).append(": ").append(Long.toHexString(x.packed(line))).append(' ');
        }
        addReady(text, x);
        return text.toString();
    }

    private static void addOrder(StringBuilder text, OrderRows3 x, int order) {
        text.append("| order ").append(order).append(':');
        for (int what = 0; what < 10; what++) {
            text.append(' ').append(x.told(order, what));
        }
        text.append(" of");
        int line = x.lineOf(order, 0);
        for (int i = 1; line >= 0; i++) {
            text.append(' ').append(line);
            line = x.lineOf(order, i);
        }
    }

    private static void addReady(StringBuilder text, OrderRows3 x) {
        text.append("| ready");
        int order = x.ready(0);
        for (int i = 1; order >= 0; i++) {
            text.append(' ').append(order);
            order = x.ready(i);
        }
    }
}
