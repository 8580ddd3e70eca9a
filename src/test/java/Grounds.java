/** Fills the SHEETS of a hole in a test. */
final class Grounds {
    private Grounds() {
    }

    /** SHEET s becomes a row of ints with these items. */
    static void fill(DeepHole x, int s, int... items) {
        x.sheet(s, 2, items.length);
        for (int i = 0; i < items.length; i++) {
            x.put(s, 2, i, items[i]);
        }
    }
}
