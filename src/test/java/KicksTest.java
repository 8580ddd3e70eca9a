/** Promises 11 to 15: cap, kick, gas, broken, bears. */
public final class KicksTest {
    private static final int BAD = DeepHole.BAD, NOT = DeepHole.NOT;
    private static final int G = 0, VOLUME = 1, HEIGHT = 2, CHOKE = 3, AT_SHOE = 4, BREAKS = 5;

    public static void main(String[] args) {
        cap();
        kick();
        kickRefused();
        gas();
        gasWithAHeavyMud();
        gasByWhatIsNow();
        gasRefused();
        broken();
        bears();
        bearsMoreThanLess();
        Check.end();
    }

    private static void cap() {
        Check c = new Check("promise 11");
        DeepHole x = new DeepHole();
        c.due("cap(1)", x.cap(1), 10);
        c.due("cap(1000)", x.cap(1000), 1);
        c.due("cap(0)", x.cap(0), BAD);
        c.due("cap(1001)", x.cap(1001), BAD);
        c.due("cap(-1)", x.cap(-1), BAD);
        c.due("it stayed", x.cap(7), 1000);
    }

    private static void kick() {
        Check c = new Check("promise 12");
        DeepHole x = new DeepHole();
        x.hole(10, 0);
        c.due("with a MUD it grows to the top", x.kick(100, 100, 50), 0);
        c.due("without a MUD it stays as it is", x.kick(100, 100, 0), 10);
        // B is 1000; G is 1 from p 5 on upward.
        c.due("like ones: the greatest p", x.kick(1, 100, 200), 5);
        // V B by G cut: 1 as long as G is above 500.
        c.due("little gas, cut", x.kick(1, 100, 9), 10);
        // 9000 by G: 10 with p 0 and 1, 9 below.
        c.due("like ones once they are cut", x.kick(9, 100, 12), 1);
        c.due("ends of what is told", x.kick(1000, 3000, 3000), 0);
        c.due("ends of what is told", x.kick(1, 1, 0), 10);
        x.hole(1, 1);
        c.due("a hole of 1", x.kick(10, 10, 9), 0);
    }

    private static void kickRefused() {
        Check c = new Check("promise 12, refusals");
        DeepHole x = new DeepHole();
        c.due("BAD ahead of NOT", x.kick(0, 1, 1), BAD);
        c.due("NOT", x.kick(1, 1, 1), NOT);
        c.due("a refused one is none", x.gas(0, G), Check.LONG_NOT);
        x.hole(10, 2);
        int[][] wrong = {{0, 1, 1}, {1001, 1, 1}, {1, 0, 1}, {1, 3001, 1}, {1, 1, -1}, {1, 1, 3001}};
        for (int[] w : wrong) {
            c.due("kick(" + w[0] + ", " + w[1] + ", " + w[2] + ")", x.kick(w[0], w[1], w[2]), BAD);
        }
        c.due("still none", x.gas(0, G), Check.LONG_NOT);
        x.kick(100, 100, 50);
        x.kick(1001, 1, 1);
        c.due("the latest stays", x.gas(10, G), 1000);
        x.kick(100, 200, 50);
        c.due("the latest one tells", x.gas(10, G), 2000);
    }

    private static void gas() {
        Check c = new Check("promise 13");
        DeepHole x = new DeepHole();
        x.hole(20, 8);
        Grounds.fill(x, 1, 160, 160, 160, 160, 160, 160, 160, 150);
        x.kick(50, 140, 120);
        long[][] rows = {
            // p, G, VOLUME, HEIGHT, CHOKE, at the SHOE, whether it BREAKS
            {20, 2800, 50, 5, 1000, 1960, 1},
            {13, 1960, 71, 7, 1240, 1960, 1},
            {14, 2080, 67, 6, 1120, 2080, 1},
            {10, 1600, 87, 8, 1360, 1600, 1},
            {8, 1360, 102, 8, 1360, 1360, 1},
            {7, 1240, 112, 7, 1240, 1360, 1},
            {0, 400, 350, 0, 400, 1360, 1},
        };
        for (long[] row : rows) {
            for (int what = 0; what <= 5; what++) {
                c.due("gas(" + row[0] + ", " + what + ")", x.gas((int) row[0], what), row[what + 1]);
            }
        }
        Grounds.fill(x, 1, 9, 9, 9, 9, 9, 9, 9, 170, 9);
        c.due("1360 is 170 times 8: it holds", x.gas(0, BREAKS), 0);
        x.put(1, 2, 7, 169);
        c.due("169 is not enough", x.gas(0, BREAKS), 1);
        x.hole(20, 0);
        c.due("without a SHOE: CHOKE", x.gas(10, AT_SHOE), 1360);
        c.due("without a SHOE nothing breaks", x.gas(10, BREAKS), 0);
    }

    private static void gasWithAHeavyMud() {
        Check c = new Check("promise 13, a heavy MUD");
        DeepHole x = new DeepHole();
        x.hole(10, 3);
        x.kick(1, 100, 400);
        c.due("G is 1 at least", x.gas(7, G), 1);
        c.due("VOLUME", x.gas(7, VOLUME), 1000);
        c.due("HEIGHT is p at most", x.gas(7, HEIGHT), 7);
        c.due("CHOKE of gas to the top", x.gas(7, CHOKE), 1);
        x.cap(1000);
        c.due("HEIGHT by CAP", x.gas(7, HEIGHT), 1);
        c.due("CHOKE is 0 at least", x.gas(7, CHOKE), 0);
        c.due("at the SHOE by the MUD alone", x.gas(7, AT_SHOE), 1200);
        c.due("just above the gas", x.gas(4, AT_SHOE), 1200);
        c.due("in the gas", x.gas(3, AT_SHOE), 1);
        c.due("below the gas it may be below 0", x.gas(2, AT_SHOE), 1000 - 400 * 7);
        x.hole(50, 0);
        x.kick(1000, 3000, 3000);
        c.due("the greatest VOLUME", x.gas(0, VOLUME), 150000000);
        c.due("the greatest B", x.gas(50, G), 150000);
    }

    private static void gasByWhatIsNow() {
        Check c = new Check("promise 13, by what is now");
        DeepHole x = new DeepHole();
        x.hole(20, 8);
        x.kick(50, 140, 120);
        x.cap(5);
        c.due("CAP as it is", x.gas(20, HEIGHT), 10);
        x.hole(10, 4);
        c.due("DEPTH as it is", x.gas(10, G), 1400);
        c.due("no deeper than that", x.gas(11, G), Check.LONG_BAD);
        c.due("SHOE as it is", x.gas(0, AT_SHOE), 1400 - 120 * 6);
        Grounds.fill(x, 1, 170);
        c.due("FRAC as it is", x.gas(0, BREAKS), 0);
        x.put(1, 2, 0, 169);
        c.due("FRAC as it is", x.gas(0, BREAKS), 1);
        x.lose(1);
        c.due("FRAC as it is", x.gas(0, BREAKS), 0);
        x.hole(0, 0);
        c.due("a hole of 0", x.gas(0, G), 1);
        c.due("a hole of 0", x.gas(0, VOLUME), 0);
        c.due("a hole of 0", x.broken(), DeepHole.NONE);
    }

    private static void gasRefused() {
        Check c = new Check("promise 13, refusals");
        DeepHole x = new DeepHole();
        x.hole(10, 2);
        c.due("no kick", x.gas(10, G), Check.LONG_NOT);
        int[][] wrong = {{-1, 0}, {11, 0}, {0, -1}, {0, 6}};
        for (int[] w : wrong) {
            c.due("gas(" + w[0] + ", " + w[1] + "), BAD ahead of NOT", x.gas(w[0], w[1]), Check.LONG_BAD);
        }
        x.kick(1, 1, 1);
        for (int[] w : wrong) {
            c.due("gas(" + w[0] + ", " + w[1] + ")", x.gas(w[0], w[1]), Check.LONG_BAD);
        }
    }

    private static void broken() {
        Check c = new Check("promise 14");
        DeepHole x = new DeepHole();
        c.due("no kick", x.broken(), NOT);
        x.hole(20, 8);
        c.due("no kick in a hole", x.broken(), NOT);
        x.kick(50, 140, 120);
        c.due("strong ground", x.broken(), DeepHole.NONE);
        // Pressures at the SHOE: 1960 with p 20 to 17, 2080 with 16 to 14, less above.
        Grounds.fill(x, 1, 259);
        c.due("at its greatest alone", x.broken(), 16);
        x.put(1, 2, 0, 260);
        c.due("just not", x.broken(), DeepHole.NONE);
        x.put(1, 2, 0, 245);
        c.due("not at the bottom", x.broken(), 16);
        x.put(1, 2, 0, 244);
        c.due("at the bottom", x.broken(), 20);
        x.hole(20, 0);
        c.due("no SHOE", x.broken(), DeepHole.NONE);
        x.hole(10, 1);
        x.kick(1, 100, 0);
        Grounds.fill(x, 1, 999, 3000);
        c.due("SHOE 1", x.broken(), 10);
        x.put(1, 2, 0, 1000);
        c.due("SHOE 1, just not", x.broken(), DeepHole.NONE);
    }

    private static void bears() {
        Check c = new Check("promise 15");
        DeepHole x = new DeepHole();
        c.due("BAD ahead of NOT", x.bears(0, 1), BAD);
        c.due("NOT", x.bears(1, 1), NOT);
        x.hole(20, 8);
        int[][] wrong = {{0, 1}, {3001, 1}, {1, -1}, {1, 3001}};
        for (int[] w : wrong) {
            c.due("bears(" + w[0] + ", " + w[1] + ")", x.bears(w[0], w[1]), BAD);
        }
        c.due("strong ground bears all", x.bears(140, 120), 1000);
        Grounds.fill(x, 1, 275);
        int most = x.bears(140, 120);
        x.kick(most, 140, 120);
        c.due("the greatest is borne", x.broken(), DeepHole.NONE);
        x.kick(most + 1, 140, 120);
        c.holds("one more is not", x.broken() >= 0);
        c.holds("it is one between", most >= 50 && most < 1000);
        c.due("the latest kick stays", x.gas(20, VOLUME), most + 1);
        x.bears(1, 1);
        c.due("and after bears()", x.gas(20, G), 2800);
        // With CAP 1 a VOLUME 1 brings 1480 to the SHOE, 185 times 8, and 2 brings 1720.
        x.cap(1);
        x.put(1, 2, 0, 185);
        c.due("1 alone", x.bears(140, 120), 1);
        x.put(1, 2, 0, 215);
        c.due("2", x.bears(140, 120), 2);
        x.put(1, 2, 0, 184);
        c.due("not even 1", x.bears(140, 120), 0);
        x.put(1, 2, 0, 0);
        c.due("ground that bears nothing", x.bears(140, 120), 0);
        x.hole(20, 0);
        c.due("no SHOE", x.bears(3000, 0), 1000);
    }

    /** A MUD so heavy that it alone breaks the SHOE, unless gas stands there: only much gas is borne. */
    private static void bearsMoreThanLess() {
        Check c = new Check("promise 15, more gas but not less");
        DeepHole x = new DeepHole();
        x.hole(10, 5);
        Grounds.fill(x, 1, 1000);
        x.cap(1);
        x.kick(1, 100, 2000);
        c.holds("1 is too much", x.broken() >= 0);
        x.kick(1000, 100, 2000);
        c.due("1000 is not", x.broken(), DeepHole.NONE);
        c.due("the greatest", x.bears(100, 2000), 1000);
    }
}
