/** A packed line, part by part; the document's row of widths written out as the lowest bit of each part. */
final class Packed {
    private Packed() {
    }

    static long good(long packed) {
        return part(packed, 0, 4);
    }

    static long insteadAndOne(long packed) {
        return part(packed, 4, 5);
    }

    static long rules(long packed) {
        return part(packed, 9, 3);
    }

    static long wanted(long packed) {
        return part(packed, 12, 10);
    }

    static long held(long packed) {
        return part(packed, 22, 10);
    }

    static long picked(long packed) {
        return part(packed, 32, 10);
    }

    static long shipped(long packed) {
        return part(packed, 42, 10);
    }

    static long live(long packed) {
        return part(packed, 52, 1);
    }

    static long backordered(long packed) {
        return part(packed, 53, 1);
    }

    static long order(long packed) {
        return part(packed, 54, 5);
    }

    private static long part(long packed, int lowest, int bits) {
        return packed >>> lowest & (1L << bits) - 1;
    }
}
