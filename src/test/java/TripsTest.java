/** Promises 16 to 19: swab, speed, trip, lightest. */
public final class TripsTest {
    private static final int BAD = DeepHole.BAD, NOT = DeepHole.NOT;

    public static void main(String[] args) {
        swab();
        speed();
        trip();
        tripThatEnds();
        lightest();
        lightestWithinTheWindow();
        Check.end();
    }

    private static void swab() {
        Check c = new Check("promise 16");
        DeepHole x = new DeepHole();
        c.due("swab(0)", x.swab(0), 100);
        c.due("swab(1000)", x.swab(1000), 0);
        c.due("swab(-1)", x.swab(-1), BAD);
        c.due("swab(1001)", x.swab(1001), BAD);
        c.due("it stayed", x.swab(5), 1000);
    }

    private static void speed() {
        Check c = new Check("promise 17");
        DeepHole x = new DeepHole();
        Grounds.fill(x, 0, 500, 100, 90, 500);
        x.hole(3, 1);
        x.swab(1000);
        // The MUD is less by v b.
        c.due("9 times 3 is 27", x.speed(127, 3), 9);
        c.due("one less", x.speed(126, 3), 8);
        c.due("just 1", x.speed(103, 3), 1);
        c.due("none", x.speed(102, 3), 0);
        c.due("higher up it is faster", x.speed(102, 1), 2);
        c.due("the PORE itself", x.speed(100, 1), 0);
        x.swab(0);
        c.due("no SWAB", x.speed(100, 3), 9);
        c.due("no SWAB, too light", x.speed(99, 3), 0);
        x.swab(111);
        c.due("cut: 111 times 9 by 1000 is 0", x.speed(100, 1), 9);
        x.swab(112);
        c.due("cut: 112 times 8 by 1000 is 0", x.speed(100, 1), 8);
        x.hole(3, 3);
        c.due("none is OPEN", x.speed(0, 3), 9);
        x.hole(4, 1);
        c.due("the deepest OPEN one", x.speed(499, 1), 0);
        int[][] wrong = {{-1, 1}, {3001, 1}, {100, 0}, {100, 5}, {100, -1}};
        for (int[] w : wrong) {
            c.due("speed(" + w[0] + ", " + w[1] + ")", x.speed(w[0], w[1]), BAD);
        }
        c.due("at d", x.speed(3000, 4), 9);
    }

    private static void trip() {
        Check c = new Check("promise 18");
        DeepHole x = new DeepHole();
        Grounds.fill(x, 0, 100);
        x.swab(1000);
        int[] times = {360, 180, 120, 90, 72, 60, 52, 45, 40};
        x.hole(1, 0);
        for (int v = 1; v <= 9; v++) {
            c.due("a hole of 1 with SPEED " + v, x.trip(100 + v), times[v - 1]);
        }
        x.hole(3, 0);
        // SPEEDS 2, 3, 7 with b 3, 2, 1.
        c.due("slow at the bottom", x.trip(107), 180 + 120 + 52);
        x.hole(50, 50);
        c.due("none is OPEN", x.trip(0), 2000);
        x.hole(0, 0);
        c.due("a hole of 0", x.trip(0), 0);
        c.due("trip(-1)", x.trip(-1), BAD);
        c.due("trip(3001)", x.trip(3001), BAD);
        c.due("trip(3000)", x.trip(3000), 0);
    }

    private static void tripThatEnds() {
        Check c = new Check("promise 18, it ends");
        DeepHole x = new DeepHole();
        Grounds.fill(x, 0, 100);
        x.swab(1000);
        x.hole(50, 0);
        c.due("at the bottom", x.trip(149), -1050);
        c.holds("just not", x.trip(150) > 0);
        x.hole(1, 0);
        c.due("at 1", x.trip(100), -1001);
        x.margins(500, 500);
        c.due("MARGINS are not asked for", x.trip(109), 40);
    }

    private static void lightest() {
        Check c = new Check("promise 19");
        DeepHole x = new DeepHole();
        Grounds.fill(x, 0, 100);
        x.swab(1000);
        x.hole(1, 0);
        int[] times = {360, 180, 120, 90, 72, 60, 52, 45, 40};
        for (int v = 1; v <= 9; v++) {
            c.due("just in time by " + v, x.lightest(times[v - 1]), 100 + v);
        }
        c.due("just too late by 1", x.lightest(359), 102);
        c.due("faster than can be", x.lightest(39), NOT);
        c.due("no TIME", x.lightest(0), NOT);
        c.due("all TIME", x.lightest(100000), 101);
        c.due("lightest(-1)", x.lightest(-1), BAD);
        c.due("lightest(100001)", x.lightest(100001), BAD);
        x.hole(1, 1);
        c.due("none is OPEN", x.lightest(40), 0);
        c.due("none is OPEN, too late", x.lightest(39), NOT);
        x.hole(0, 0);
        c.due("a hole of 0", x.lightest(0), 0);
    }

    private static void lightestWithinTheWindow() {
        Check c = new Check("promise 19, what HOLDS");
        DeepHole x = new DeepHole();
        Grounds.fill(x, 0, 100);
        Grounds.fill(x, 1, 109);
        x.swab(1000);
        x.hole(1, 0);
        c.due("at FRAC", x.lightest(40), 109);
        x.margins(0, 1);
        c.due("above FRAC less HIGH", x.lightest(40), NOT);
        c.due("slower", x.lightest(45), 108);
        x.margins(5, 1);
        c.due("PORE and LOW", x.lightest(100000), 105);
        x.margins(5, 5);
        c.due("no MUD HOLDS all", x.lightest(100000), NOT);
        x.margins(0, 0);
        x.hole(20, 0);
        c.due("every TRIP ends", x.lightest(100000), NOT);
        Grounds.fill(x, 0, 3000);
        x.lose(1);
        c.due("the heaviest MUD ends there", x.lightest(100000), NOT);
        x.swab(0);
        c.due("the heaviest MUD does", x.lightest(800), 3000);
    }
}
