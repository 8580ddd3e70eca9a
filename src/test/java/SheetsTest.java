/** Promises 29 to 35: sheet, lose, put, get, copy, count, digest. */
public final class SheetsTest {
    private static final int BAD = DeepHole.BAD;
    private static final int NULL = -11, INDEX = -12, CAST = -13, STORE = -14, SIZE = -15;

    public static void main(String[] args) {
        sheet();
        lose();
        put();
        putAndGetOfEachForm();
        get();
        copy();
        copyOntoItself();
        copyRefused();
        count();
        digest();
        Check.end();
    }

    private static void sheet() {
        Check c = new Check("promise 29");
        DeepHole x = new DeepHole();
        c.due("sheet(0, 0, 0)", x.sheet(0, 0, 0), 0);
        c.due("it is there", x.put(0, 0, 0, 1), INDEX);
        c.due("sheet(3, 2, 60)", x.sheet(3, 2, 60), 60);
        c.due("the last item", x.put(3, 2, 59, 5), 1);
        int[][] wrong = {{-1, 0, 1}, {4, 0, 1}, {0, -1, 1}, {0, 3, 1}, {0, 0, 61}, {4, 0, -1}, {0, 3, -1}};
        for (int[] w : wrong) {
            c.due("sheet(" + w[0] + ", " + w[1] + ", " + w[2] + ")", x.sheet(w[0], w[1], w[2]), BAD);
        }
        c.due("BAD is no FINDING", x.count(5), 2);
        c.due("sheet(3, 0, -1)", x.sheet(3, 0, -1), SIZE);
        c.due("count(5)", x.count(5), 5);
        c.due("least n", x.sheet(3, 0, Integer.MIN_VALUE), SIZE);
        c.due("it stays as it was", x.get(3, 2, 59), 5);
        c.due("a new row of the same FORM", x.sheet(3, 2, 60), 60);
        c.due("its items are 0", x.get(3, 2, 59), 0);
        x.put(3, 2, 2, 9);
        x.sheet(3, 1, 3);
        c.due("a new row of another FORM", x.get(3, 1, 2), 0);
        c.due("it is shorter", x.get(3, 1, 3), Check.LEAST_INT);
    }

    private static void lose() {
        Check c = new Check("promise 30");
        DeepHole x = new DeepHole();
        c.due("LOST at first", x.lose(2), NULL);
        c.due("count(5)", x.count(5), 1);
        x.sheet(2, 1, 7);
        x.sheet(1, 1, 4);
        c.due("lose(2)", x.lose(2), 7);
        c.due("lose(2) again", x.lose(2), NULL);
        c.due("the others stay", x.lose(1), 4);
        x.sheet(2, 1, 0);
        c.due("an empty one is not LOST", x.lose(2), 0);
        c.due("lose(-1)", x.lose(-1), BAD);
        c.due("lose(4)", x.lose(4), BAD);
    }

    private static void put() {
        Check c = new Check("promise 31");
        DeepHole x = new DeepHole();
        c.due("BAD sheet", x.put(4, 0, 0, 1), BAD);
        c.due("BAD sheet", x.put(-1, 0, 0, 1), BAD);
        c.due("BAD form ahead of NULL", x.put(0, 3, 0, 1), BAD);
        c.due("BAD form", x.put(0, -1, 0, 1), BAD);
        c.due("no FINDING yet", x.count(5), 0);
        c.due("NULL ahead of INDEX", x.put(0, 0, -1, 1), NULL);
        c.due("count(5)", x.count(5), 1);
        x.sheet(0, 1, 3);
        c.due("CAST ahead of INDEX", x.put(0, 0, 3, 1), CAST);
        c.due("count(5)", x.count(5), 3);
        c.due("CAST to a wider one", x.put(0, 2, 0, 1), CAST);
        c.due("INDEX", x.put(0, 1, 3, 1), INDEX);
        c.due("count(5)", x.count(5), 2);
        c.due("INDEX below 0", x.put(0, 1, -1, 1), INDEX);
        c.due("put(0, 1, 2, 9)", x.put(0, 1, 2, 9), 1);
        c.due("the latest FINDING stays", x.count(5), 2);
        c.due("item 2", x.get(0, 1, 2), 9);
        c.due("item 1", x.get(0, 1, 1), 0);
        x.lose(0);
        c.due("NULL ahead of CAST", x.put(0, 0, 0, 1), NULL);
    }

    private static void putAndGetOfEachForm() {
        Check c = new Check("promises 31 and 32, lowest bits");
        DeepHole x = new DeepHole();
        int[] values = {0, 1, -1, 127, 128, -128, -129, 255, 256, 32767, 32768, -32768, -32769, 65535, 65536,
            Integer.MAX_VALUE, Integer.MIN_VALUE};
        x.sheet(0, 0, 1);
        x.sheet(1, 1, 1);
        x.sheet(2, 2, 1);
        for (int v : values) {
            x.put(0, 0, 0, v);
            x.put(1, 1, 0, v);
            x.put(2, 2, 0, v);
            c.due(v + " as a byte", x.get(0, 0, 0), (byte) v);
            c.due(v + " as a short", x.get(1, 1, 0), (short) v);
            c.due(v + " as an int", x.get(2, 2, 0), v);
        }
    }

    private static void get() {
        Check c = new Check("promise 32");
        DeepHole x = new DeepHole();
        c.due("BAD sheet", x.get(4, 0, 0), Check.LEAST_INT);
        c.due("BAD form", x.get(0, 3, 0), Check.LEAST_INT);
        c.due("BAD is no FINDING", x.count(5), 0);
        c.due("NULL", x.get(0, 0, 0), Check.LEAST_INT);
        c.due("count(5)", x.count(5), 1);
        x.sheet(0, 2, 2);
        x.put(0, 2, 0, 10);
        x.put(0, 2, 1, 11);
        c.due("CAST", x.get(0, 1, 2), Check.LEAST_INT);
        c.due("count(5)", x.count(5), 3);
        c.due("INDEX", x.get(0, 2, 2), Check.LEAST_INT);
        c.due("count(5)", x.count(5), 2);
        c.due("CAST", x.get(0, 0, 0), Check.LEAST_INT);
        c.due("INDEX below 0", x.get(0, 2, -1), Check.LEAST_INT);
        c.due("count(5)", x.count(5), 2);
        c.due("item 0", x.get(0, 2, 0), 10);
        c.due("item 1", x.get(0, 2, 1), 11);
    }

    private static void copy() {
        Check c = new Check("promise 33");
        DeepHole x = new DeepHole();
        Grounds.fill(x, 2, 1, 2, 3, 4, 5);
        Grounds.fill(x, 3, 11, 12, 13);
        c.due("copy(2, 1, 3, 0, 2)", x.copy(2, 1, 3, 0, 2), 1);
        row(c, x, 3, 2, 3, 13);
        row(c, x, 2, 1, 2, 3, 4, 5);
        c.due("none", x.copy(2, 5, 3, 3, 0), 1);
        c.due("to the end", x.copy(3, 0, 2, 2, 3), 1);
        row(c, x, 2, 1, 2, 2, 3, 13);
        x.put(3, 2, 0, 99);
        c.due("they are apart", x.get(2, 2, 2), 2);
        x.copy(2, 0, 3, 0, 3);
        Grounds.fill(x, 0, 40, 50);
        c.due("ground ahead", x.ground(0, 1), 50);
        x.copy(2, 4, 0, 1, 1);
        c.due("ground behind", x.ground(0, 1), 13);
    }

    private static void copyOntoItself() {
        Check c = new Check("promise 33, onto itself");
        DeepHole x = new DeepHole();
        Grounds.fill(x, 1, 1, 2, 3, 4, 5);
        c.due("down", x.copy(1, 0, 1, 1, 4), 1);
        row(c, x, 1, 1, 1, 2, 3, 4);
        c.due("up", x.copy(1, 1, 1, 0, 4), 1);
        row(c, x, 1, 1, 2, 3, 4, 4);
        c.due("in place", x.copy(1, 0, 1, 0, 5), 1);
        row(c, x, 1, 1, 2, 3, 4, 4);
    }

    private static void row(Check c, DeepHole x, int s, int... items) {
        for (int i = 0; i < items.length; i++) {
            c.due("item " + i + " of SHEET " + s, x.get(s, 2, i), items[i]);
        }
    }

    private static void copyRefused() {
        Check c = new Check("promise 33, refusals");
        DeepHole x = new DeepHole();
        int[][] wrong = {{-1, 0}, {4, 0}, {0, -1}, {0, 4}};
        for (int[] w : wrong) {
            c.due("BAD sheets", x.copy(w[0], 0, w[1], 0, 0), BAD);
        }
        c.due("no FINDING yet", x.count(5), 0);
        x.sheet(0, 1, 3);
        c.due("NULL: t", x.copy(0, -1, 1, 0, 1), NULL);
        c.due("NULL: s", x.copy(1, -1, 0, 0, 1), NULL);
        c.due("count(5)", x.count(5), 1);
        x.sheet(1, 2, 3);
        c.due("STORE ahead of INDEX", x.copy(0, -1, 1, 0, 1), STORE);
        c.due("STORE of none", x.copy(0, 0, 1, 0, 0), STORE);
        c.due("count(5)", x.count(5), 4);
        x.sheet(1, 1, 2);
        x.put(0, 1, 0, 7);
        x.put(1, 1, 0, 8);
        int most = Integer.MAX_VALUE;
        int[][] none = {{-1, 0, 1}, {0, -1, 1}, {0, 0, -1}, {0, 0, 3}, {2, 0, 2}, {0, 1, 2}, {3, 0, 1}, {0, 2, 1},
            {most, 0, 1}, {0, most, 1}, {1, 1, most}, {most, most, most}, {0, 0, Integer.MIN_VALUE}, {-1, 0, 0}};
        for (int[] n : none) {
            c.due("INDEX: copy(0, " + n[0] + ", 1, " + n[1] + ", " + n[2] + ")", x.copy(0, n[0], 1, n[1], n[2]), INDEX);
        }
        c.due("count(5)", x.count(5), 2);
        c.due("nothing came", x.get(1, 1, 0), 8);
    }

    private static void count() {
        Check c = new Check("promise 34");
        DeepHole x = new DeepHole();
        x.hole(9, 4);
        x.string(1, 1);
        x.string(1, 1);
        x.string(1, 1);
        x.pull(10, 1);
        x.pull(10, 1);
        x.station(0, 0, 1);
        for (int n = 0; n < 4; n++) {
            x.station(1, 0, 1);
        }
        x.sheet(0, 0, -1);
        x.margins(31, 32);
        int[] due = {9, 4, 3, 2, 5, 5, 31, 32};
        for (int what = 0; what < due.length; what++) {
            c.due("count(" + what + ")", x.count(what), due[what]);
        }
        c.due("count(-1)", x.count(-1), BAD);
        c.due("count(8)", x.count(8), BAD);
    }

    private static void digest() {
        Check c = new Check("promise 35");
        DeepHole x = new DeepHole();
        c.due("of a new object", x.digest(), digestByHand(x));
        x.hole(9, 4);
        x.string(1, 1);
        x.pull(10, 1);
        x.pull(10, 1);
        x.margins(31, 32);
        x.begin(0, 500);
        x.begin(1, -700);
        x.station(0, 1, 1);
        x.station(1, 2, -1);
        x.station(1, 3, -1);
        Grounds.fill(x, 0, 100, 101, -1, 103);
        Grounds.fill(x, 1, 200, 201, 202, 9000);
        c.due("of a used one", x.digest(), digestByHand(x));
        long before = x.digest();
        x.get(3, 0, 0);
        c.due("a FINDING is not in it", x.digest(), before);
        c.holds("DEPTH is", x.hole(10, 4) == 1 && x.digest() != before);
        x.hole(9, 4);
        c.holds("FRAC is", x.put(1, 2, 3, 8) == 1 && x.digest() != before);
    }

    private static long digestByHand(DeepHole x) {
        long h = 17;
        int[] whats = {0, 1, 2, 3, 4, 6, 7};
        for (int what : whats) {
            h = h * 31 + x.count(what);
        }
        for (int i = 0; i < 50; i++) {
            h = h * 31 + x.ground(0, i);
            h = h * 31 + x.ground(1, i);
        }
        for (int hole = 0; hole < 2; hole++) {
            int last = 0;
            while (x.place(hole, last + 1, 0) != Check.LEAST_INT) {
                last++;
            }
            h = h * 31 + x.place(hole, last, 0);
            h = h * 31 + x.place(hole, last, 1);
        }
        return h;
    }
}
