/** Promises 2 to 6: hole, margins, ground, breaks, window. */
public final class GroundTest {
    private static final int BAD = DeepHole.BAD;

    public static void main(String[] args) {
        hole();
        margins();
        ground();
        groundOfEachForm();
        breaks();
        window();
        Check.end();
    }

    private static void hole() {
        Check c = new Check("promise 2");
        DeepHole x = new DeepHole();
        c.due("hole(50, 50)", x.hole(50, 50), 1);
        c.due("depth", x.count(0), 50);
        c.due("shoe", x.count(1), 50);
        c.due("hole(20, 5)", x.hole(20, 5), 1);
        int[][] wrong = {{51, 0}, {-1, 0}, {-1, -1}, {5, 6}, {5, -1}, {0, 1}, {Integer.MAX_VALUE, 0},
            {Integer.MIN_VALUE, 0}};
        for (int[] w : wrong) {
            c.due("hole(" + w[0] + ", " + w[1] + ")", x.hole(w[0], w[1]), BAD);
        }
        c.due("depth stays", x.count(0), 20);
        c.due("shoe stays", x.count(1), 5);
        c.due("hole(0, 0)", x.hole(0, 0), 1);
        c.due("depth", x.count(0), 0);
        c.due("shoe", x.count(1), 0);
    }

    private static void margins() {
        Check c = new Check("promise 3");
        DeepHole x = new DeepHole();
        c.due("margins(500, 0)", x.margins(500, 0), 1);
        c.due("low", x.count(6), 500);
        c.due("high", x.count(7), 0);
        c.due("margins(3, 500)", x.margins(3, 500), 1);
        int[][] wrong = {{501, 0}, {0, 501}, {-1, 0}, {0, -1}};
        for (int[] w : wrong) {
            c.due("margins(" + w[0] + ", " + w[1] + ")", x.margins(w[0], w[1]), BAD);
        }
        c.due("low stays", x.count(6), 3);
        c.due("high stays", x.count(7), 500);
        c.due("margins(0, 0)", x.margins(0, 0), 1);
        c.due("low", x.count(6), 0);
        c.due("high", x.count(7), 0);
    }

    private static void ground() {
        Check c = new Check("promise 4");
        DeepHole x = new DeepHole();
        Grounds.fill(x, 0, -1, 3001, 40, -7, 0, 3000, 3001, 60);
        int[] pores = {0, 0, 40, 40, 0, 3000, 3000, 60, 60};
        for (int i = 0; i < pores.length; i++) {
            c.due("ground(0, " + i + ")", x.ground(0, i), pores[i]);
        }
        c.due("below the row", x.ground(0, 49), 60);
        Grounds.fill(x, 1, -1, 3001, 40, 3001);
        int[] fracs = {3000, 3000, 40, 40, 40};
        for (int i = 0; i < fracs.length; i++) {
            c.due("ground(1, " + i + ")", x.ground(1, i), fracs[i]);
        }
        int[][] wrong = {{-1, 0}, {2, 0}, {0, -1}, {0, 50}, {1, 50}, {1, Integer.MIN_VALUE}};
        for (int[] w : wrong) {
            c.due("ground(" + w[0] + ", " + w[1] + ")", x.ground(w[0], w[1]), BAD);
        }
        x.sheet(0, 2, 0);
        c.due("an empty row", x.ground(0, 9), 0);
        x.lose(1);
        c.due("a lost row", x.ground(1, 9), 3000);
    }

    private static void groundOfEachForm() {
        Check c = new Check("promise 4, forms");
        DeepHole x = new DeepHole();
        x.sheet(0, 0, 2);
        x.put(0, 0, 0, 127);
        x.put(0, 0, 1, 128);
        c.due("a byte", x.ground(0, 0), 127);
        c.due("a byte below 0", x.ground(0, 1), 127);
        x.sheet(0, 1, 60);
        x.put(0, 1, 49, 2999);
        x.put(0, 1, 50, 11);
        c.due("a short", x.ground(0, 49), 2999);
        c.due("a new row is of 0", x.ground(0, 48), 0);
        x.sheet(1, 1, 60);
        c.due("a new row of FRAC", x.ground(1, 0), 0);
        x.sheet(2, 2, 60);
        x.sheet(3, 2, 60);
        x.put(2, 2, 0, 77);
        x.put(3, 2, 0, 78);
        c.due("SHEETS 2 and 3 are no ground", x.ground(0, 0) + x.ground(1, 0), 0);
    }

    private static void breaks() {
        Check c = new Check("promise 5");
        DeepHole x = new DeepHole();
        Grounds.fill(x, 0, 900, 100, 100, 120, 900);
        Grounds.fill(x, 1, 950, 200, 180, 200, 950);
        x.hole(4, 1);
        x.margins(10, 20);
        c.due("just held", x.breaks(130), DeepHole.NONE);
        c.due("just below PORE and LOW", x.breaks(129), 3);
        c.due("just held above", x.breaks(160), DeepHole.NONE);
        c.due("just above FRAC less HIGH", x.breaks(161), 2);
        c.due("the first of many", x.breaks(0), 1);
        x.hole(5, 1);
        c.due("the deepest counts", x.breaks(150), 4);
        x.hole(5, 5);
        c.due("none is open", x.breaks(0), DeepHole.NONE);
        c.due("breaks(-1)", x.breaks(-1), BAD);
        c.due("breaks(3001)", x.breaks(3001), BAD);
        c.due("breaks(3000)", x.breaks(3000), DeepHole.NONE);
        x.hole(5, 0);
        c.due("the shallowest counts", x.breaks(150), 0);
    }

    private static void window() {
        Check c = new Check("promise 6");
        DeepHole x = new DeepHole();
        Grounds.fill(x, 0, 100, 110, 130, 120, 3000);
        Grounds.fill(x, 1, 200, 170, 180, 160, 3000);
        c.due("least", x.window(0, 3, 0), 130);
        c.due("greatest", x.window(0, 3, 1), 160);
        c.due("one piece, least", x.window(1, 1, 0), 110);
        c.due("one piece, greatest", x.window(1, 1, 1), 170);
        x.margins(10, 20);
        c.due("least with LOW", x.window(0, 3, 0), 140);
        c.due("greatest with HIGH", x.window(0, 3, 1), 140);
        x.margins(10, 21);
        c.due("none does, least", x.window(0, 3, 0), DeepHole.NOT);
        c.due("none does, greatest", x.window(0, 3, 1), DeepHole.NOT);
        x.margins(0, 0);
        c.due("the heaviest", x.window(4, 49, 0), 3000);
        c.due("the heaviest", x.window(4, 49, 1), 3000);
        x.margins(1, 0);
        c.due("heavier than any", x.window(4, 49, 0), DeepHole.NOT);
        int[][] wrong = {{3, 2, 0}, {-1, 2, 0}, {0, 50, 0}, {50, 50, 0}, {0, 0, -1}, {0, 0, 2}, {4, 3, 0}};
        for (int[] w : wrong) {
            c.due("window(" + w[0] + ", " + w[1] + ", " + w[2] + ")", x.window(w[0], w[1], w[2]), BAD);
        }
    }
}
