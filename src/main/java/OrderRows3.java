import java.util.ArrayList;
import java.util.NoSuchElementException;

public final class OrderRows3 {
    private static final int OPEN = 0;
    private static final int ALLOCATED = 1;
    private static final int PICKING = 2;
    private static final int PACKED = 3;
    private static final int GONE = 4;
    private static final int CLOSED = 5;
    private static final int CANCELLED = 6;
    private static final int MERGED = 7;

    private static final int PARTIAL = 1;
    private static final int MAY_STAND_INSTEAD = 2;
    private static final int FOR_BACKORDER = 4;

    private static final int LAST_CUSTOMER = 7;
    private static final int LAST_PERSON = 7;
    private static final int LAST_GOOD = 15;
    private static final int LAST_DAY = 10000;
    private static final int LAST_RANK = 9;
    private static final int LAST_RULES = 7;
    private static final int MOST_OWN_NUMBER = 99999;
    private static final int MOST_PIECES = 1000;

    private static final int MOST_ORDERS = 20;
    private static final int MOST_LINES = 60;
    private static final int MOST_LINES_OF_ORDER = 8;

    // The document leaves 0 to backorders, so no customer's own number ever meets one.
    private static final int NUMBER_OF_BACKORDER = 0;

    private static final int CHANGE_WANTED = 0;
    private static final int CHANGE_INSTEAD = 1;
    private static final int CHANGE_RULES = 2;

    private static final int NONE = -1;

    private final ArrayList<Order> orders;
    private final ArrayList<Line> lines;

    public OrderRows3() {
        orders = new ArrayList<>();
        lines = new ArrayList<>();
    }

    public int order(int customer, int number, int rank, int day)
            throws IllegalArgumentException, UnsupportedOperationException {
        requireRange(customer, 0, LAST_CUSTOMER);
        requireRange(number, 1, MOST_OWN_NUMBER);
        requireRange(rank, 1, LAST_RANK);
        requireRange(day, 0, LAST_DAY);
        int same = firstWithOwnNumber(customer, number);
        // A doubled number needs no room, so it is answered even when all orders are taken.
        if (same != NONE) {
            return -1 - same;
        }
        requireRoomForOrder();
        return addOrder(customer, number, rank, day).index;
    }

    public int line(int order, int good, int wanted, int rules)
            throws NoSuchElementException, IllegalArgumentException, IllegalStateException,
            UnsupportedOperationException {
        Order home = orderAt(order);
        requireRange(good, 0, LAST_GOOD);
        requireRange(wanted, 1, MOST_PIECES);
        requireRange(rules, 0, LAST_RULES);
        requireState(home.phase == OPEN);
        requireRoom(home.lines.size() < MOST_LINES_OF_ORDER);
        requireRoomForLine();
        return addLine(home, good, wanted, rules).index;
    }

    public int hold(int line, int n)
            throws NoSuchElementException, IllegalArgumentException, IllegalStateException {
        Line row = lineAt(line);
        requireRange(n, 1, MOST_PIECES);
        requireState(row.home.phase == OPEN || row.home.phase == ALLOCATED);
        requireState(row.live);
        requireState(row.held + n <= row.wanted);
        row.held += n;
        row.home.version++;
        return row.held;
    }

    public int pick(int line, int n)
            throws NoSuchElementException, IllegalArgumentException, IllegalStateException {
        Line row = lineAt(line);
        requireRange(n, 1, MOST_PIECES);
        requireState(row.home.phase == PICKING);
        requireState(!row.home.isBlocked());
        requireState(row.picked + n <= row.held);
        row.picked += n;
        row.home.version++;
        return row.picked;
    }

    public int goOn(int order) throws NoSuchElementException, IllegalStateException {
        Order row = orderAt(order);
        requireState(row.phase < CLOSED);
        if (row.isBlocked() || !row.meetsNextPhase()) {
            return -1;
        }
        if (row.phase == PACKED) {
            row.shipAllPicked();
        }
        row.phase++;
        row.version++;
        return row.phase;
    }

    public boolean change(int line, int what, int v)
            throws NoSuchElementException, IllegalArgumentException, IllegalStateException {
        Line row = lineAt(line);
        requireRange(what, CHANGE_WANTED, CHANGE_RULES);
        requireChangeValue(what, v);
        requireState(row.live);
        if (!phaseLetsChange(row.home.phase, what)) {
            return false;
        }
        if (what == CHANGE_INSTEAD) {
            requireState(row.hasRule(MAY_STAND_INSTEAD));
            requireState(v != row.good);
        }
        applyChange(row, what, v);
        row.home.version++;
        return true;
    }

    public boolean move(int order, int day) throws NoSuchElementException, IllegalArgumentException {
        Order row = orderAt(order);
        requireRange(day, 0, LAST_DAY);
        if (row.phase >= GONE) {
            return false;
        }
        row.day = day;
        row.version++;
        return true;
    }

    public int cancel(int line) throws NoSuchElementException, IllegalStateException {
        Line row = lineAt(line);
        Order home = row.home;
        requireState(row.live);
        requireState(home.phase <= PICKING);
        int free = row.held;
        row.live = false;
        row.wanted = 0;
        row.held = 0;
        row.picked = 0;
        home.version++;
        if (!home.hasLiveLine()) {
            home.phase = CANCELLED;
        }
        return free;
    }

    public void join(int order, int other)
            throws NoSuchElementException, IllegalStateException, UnsupportedOperationException {
        Order into = orderAt(order);
        Order from = orderAt(other);
        requireState(into != from);
        requireState(into.phase == OPEN && from.phase == OPEN);
        requireState(into.customer == from.customer);
        requireState(!into.isBlocked() && !from.isBlocked());
        requireRoom(into.lines.size() + from.lines.size() <= MOST_LINES_OF_ORDER);
        into.takeLinesOf(from);
        from.phase = MERGED;
        from.mergedInto = into.index;
        into.version++;
        from.version++;
    }

    public int block(int order, int person, boolean on)
            throws NoSuchElementException, IllegalArgumentException, IllegalStateException {
        Order row = orderAt(order);
        requireRange(person, 0, LAST_PERSON);
        requireState(row.phase < GONE);
        int bit = 1 << person;
        boolean blocks = (row.blockers & bit) != 0;
        requireState(blocks != on);
        row.blockers ^= bit;
        row.version++;
        return Integer.bitCount(row.blockers);
    }

    public int backorder(int line)
            throws NoSuchElementException, IllegalStateException, UnsupportedOperationException {
        Line row = lineAt(line);
        Order home = row.home;
        requireState(home.phase == GONE);
        requireState(row.awaitsBackorder());
        requireRoomForOrder();
        requireRoomForLine();
        Order late = addOrder(home.customer, NUMBER_OF_BACKORDER, home.rank, home.day);
        Line rest = addLine(late, row.good, row.missing(), row.rules);
        row.backordered = true;
        return rest.index;
    }

    public int ready(int i) throws IllegalArgumentException {
        requireNotNegative(i);
        for (int k = 0; k < orders.size(); k++) {
            Order row = orders.get(k);
            if (row.isWaiting() && waitingBefore(row) == i) {
                return row.index;
            }
        }
        return -1;
    }

    public int told(int order, int what) throws NoSuchElementException, IllegalArgumentException {
        Order row = orderAt(order);
        switch (what) {
            case 0: return row.phase;
            case 1: return row.customer;
            case 2: return row.ownNumber;
            case 3: return row.rank;
            case 4: return row.day;
            case 5: return row.blockers;
            case 6: return row.lines.size();
            case 7: return row.version;
            case 8: return row.mergedInto;
            case 9: return row.missing();
            default: throw new IllegalArgumentException("an order tells 0 to 9");
        }
    }

    public int lineOf(int order, int i) throws NoSuchElementException, IllegalArgumentException {
        Order row = orderAt(order);
        requireNotNegative(i);
        return i < row.lines.size() ? row.lines.get(i).index : -1;
    }

    public long packed(int line) throws NoSuchElementException {
        Line row = lineAt(line);
        long bits = row.home.index;
        bits = bits << 1 | (row.backordered ? 1 : 0);
        bits = bits << 1 | (row.live ? 1 : 0);
        bits = bits << 10 | row.shipped;
        bits = bits << 10 | row.picked;
        bits = bits << 10 | row.held;
        bits = bits << 10 | row.wanted;
        bits = bits << 3 | row.rules;
        bits = bits << 5 | (row.instead + 1);
        return bits << 4 | row.good;
    }

    public int count(int what) {
        switch (what) {
            case 0: return orders.size();
            case 1: return lines.size();
            case 2: return piecesHeld();
            case 3: return piecesShipped();
            default: return -1;
        }
    }

    private Order orderAt(int order) {
        if (order < 0 || order >= orders.size()) {
            throw new NoSuchElementException("no such order");
        }
        return orders.get(order);
    }

    private Line lineAt(int line) {
        if (line < 0 || line >= lines.size()) {
            throw new NoSuchElementException("no such line");
        }
        return lines.get(line);
    }

    private static void requireRange(int value, int least, int most) {
        if (value < least || value > most) {
            throw new IllegalArgumentException("a number outside its range");
        }
    }

    private static void requireNotNegative(int i) {
        if (i < 0) {
            throw new IllegalArgumentException("a place below 0");
        }
    }

    private static void requireState(boolean holds) {
        if (!holds) {
            throw new IllegalStateException("not as it is now");
        }
    }

    private static void requireRoom(boolean holds) {
        if (!holds) {
            throw new UnsupportedOperationException("no room");
        }
    }

    private void requireRoomForOrder() {
        requireRoom(orders.size() < MOST_ORDERS);
    }

    private void requireRoomForLine() {
        requireRoom(lines.size() < MOST_LINES);
    }

    private static void requireChangeValue(int what, int v) {
        if (what == CHANGE_WANTED) {
            requireRange(v, 1, MOST_PIECES);
        } else if (what == CHANGE_INSTEAD) {
            requireRange(v, 0, LAST_GOOD);
        } else {
            requireRange(v, 0, LAST_RULES);
        }
    }

    private static boolean phaseLetsChange(int phase, int what) {
        return phase == OPEN || (phase == ALLOCATED && what == CHANGE_RULES);
    }

    private static void applyChange(Line row, int what, int v) {
        if (what == CHANGE_WANTED) {
            row.wanted = v;
            row.held = Math.min(row.held, v);
        } else if (what == CHANGE_INSTEAD) {
            row.instead = v;
        } else {
            row.rules = v;
        }
    }

    private int firstWithOwnNumber(int customer, int number) {
        for (int k = 0; k < orders.size(); k++) {
            Order row = orders.get(k);
            if (row.customer == customer && row.ownNumber == number) {
                return k;
            }
        }
        return NONE;
    }

    private Order addOrder(int customer, int ownNumber, int rank, int day) {
        Order row = new Order(orders.size(), customer, ownNumber, rank, day);
        orders.add(row);
        return row;
    }

    private Line addLine(Order home, int good, int wanted, int rules) {
        Line row = new Line(lines.size(), home, good, wanted, rules);
        lines.add(row);
        home.lines.add(row);
        home.version++;
        return row;
    }

    // Counting who comes before spares a sorted copy, and with it an array for every call.
    private int waitingBefore(Order row) {
        int before = 0;
        for (int k = 0; k < orders.size(); k++) {
            Order other = orders.get(k);
            if (other.isWaiting() && other.comesBefore(row)) {
                before++;
            }
        }
        return before;
    }

    private int piecesHeld() {
        int sum = 0;
        for (int k = 0; k < lines.size(); k++) {
            Line row = lines.get(k);
            if (row.live && row.home.phase < GONE) {
                sum += row.held;
            }
        }
        return sum;
    }

    private int piecesShipped() {
        int sum = 0;
        for (int k = 0; k < lines.size(); k++) {
            sum += lines.get(k).shipped;
        }
        return sum;
    }

    private static final class Order {
        final int index;
        final int customer;
        final int ownNumber;
        final int rank;
        final ArrayList<Line> lines;
        int day;
        int phase;
        int blockers;
        int version;
        int mergedInto;

        Order(int index, int customer, int ownNumber, int rank, int day) {
            this.index = index;
            this.customer = customer;
            this.ownNumber = ownNumber;
            this.rank = rank;
            this.day = day;
            lines = new ArrayList<>();
            phase = OPEN;
            blockers = 0;
            version = 1;
            mergedInto = NONE;
        }

        boolean isBlocked() {
            return blockers != 0;
        }

        boolean isWaiting() {
            return (phase == OPEN || phase == ALLOCATED) && !isBlocked();
        }

        boolean comesBefore(Order other) {
            if (rank != other.rank) {
                return rank < other.rank;
            }
            if (day != other.day) {
                return day < other.day;
            }
            return index < other.index;
        }

        boolean meetsNextPhase() {
            switch (phase) {
                case OPEN: return hasLiveLine() && eachLiveLineIsReady();
                case PICKING: return allHeldIsPicked();
                case GONE: return noLineAwaitsBackorder();
                default: return phase == ALLOCATED || phase == PACKED;
            }
        }

        boolean hasLiveLine() {
            for (int k = 0; k < lines.size(); k++) {
                if (lines.get(k).live) {
                    return true;
                }
            }
            return false;
        }

        private boolean eachLiveLineIsReady() {
            for (int k = 0; k < lines.size(); k++) {
                Line row = lines.get(k);
                if (row.live && !row.isReady()) {
                    return false;
                }
            }
            return true;
        }

        private boolean allHeldIsPicked() {
            for (int k = 0; k < lines.size(); k++) {
                Line row = lines.get(k);
                if (row.live && row.picked != row.held) {
                    return false;
                }
            }
            return true;
        }

        private boolean noLineAwaitsBackorder() {
            for (int k = 0; k < lines.size(); k++) {
                if (lines.get(k).awaitsBackorder()) {
                    return false;
                }
            }
            return true;
        }

        void shipAllPicked() {
            for (int k = 0; k < lines.size(); k++) {
                Line row = lines.get(k);
                row.shipped = row.picked;
            }
        }

        void takeLinesOf(Order from) {
            int count = from.lines.size();
            for (int k = 0; k < count; k++) {
                Line row = from.lines.get(k);
                row.home = this;
                lines.add(row);
            }
            from.lines.clear();
        }

        // Nothing is short before it could have been shipped.
        int missing() {
            if (phase < GONE) {
                return 0;
            }
            int sum = 0;
            for (int k = 0; k < lines.size(); k++) {
                Line row = lines.get(k);
                if (row.live) {
                    sum += row.missing();
                }
            }
            return sum;
        }
    }

    private static final class Line {
        final int index;
        final int good;
        Order home;
        int wanted;
        int rules;
        int held;
        int picked;
        int shipped;
        int instead;
        boolean live;
        boolean backordered;

        Line(int index, Order home, int good, int wanted, int rules) {
            this.index = index;
            this.home = home;
            this.good = good;
            this.wanted = wanted;
            this.rules = rules;
            held = 0;
            picked = 0;
            shipped = 0;
            instead = NONE;
            live = true;
            backordered = false;
        }

        boolean hasRule(int rule) {
            return (rules & rule) != 0;
        }

        boolean isReady() {
            return held == wanted || (hasRule(PARTIAL) && held > 0) || hasRule(FOR_BACKORDER);
        }

        int missing() {
            return wanted - shipped;
        }

        boolean awaitsBackorder() {
            return live && hasRule(FOR_BACKORDER) && missing() > 0 && !backordered;
        }
    }
}
