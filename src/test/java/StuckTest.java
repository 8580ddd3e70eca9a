/** Promises 20 to 23: pull, slack, ends, free. */
public final class StuckTest {
    private static final int BAD = DeepHole.BAD;

    public static void main(String[] args) {
        pull();
        slack();
        ends();
        freeByOne();
        freeByMany();
        Check.end();
    }

    private static void pull() {
        Check c = new Check("promise 20");
        DeepHole x = new DeepHole();
        int[][] wrong = {{9, 1}, {10001, 1}, {10, -1}, {10, 100001}, {0, 0}, {-10, 5}};
        for (int[] w : wrong) {
            c.due("pull(" + w[0] + ", " + w[1] + ")", x.pull(w[0], w[1]), BAD);
        }
        c.due("none yet", x.count(3), 0);
        for (int n = 1; n <= 20; n++) {
            c.due("pull " + n, x.pull(n % 2 == 0 ? 10 : 10000, n % 2 == 0 ? 0 : 100000), n);
            c.due("count(3)", x.count(3), n);
        }
        c.due("one too many", x.pull(10, 0), DeepHole.FULL);
        c.due("BAD ahead of FULL", x.pull(9, 0), BAD);
        c.due("twenty stay", x.count(3), 20);
    }

    private static void slack() {
        Check c = new Check("promise 21");
        DeepHole x = new DeepHole();
        c.due("of none", x.slack(), 0);
        x.pull(10, 5);
        x.pull(10, 9);
        c.due("of two", x.slack(), 2);
        c.due("count(3)", x.count(3), 0);
        c.due("nothing is free", x.free(0), Check.LONG_NOT);
        x.ends(1, 1, 1);
        x.pull(10, 6);
        c.due("only the new one", x.free(1), 1);
        x.slack();
        x.pull(10, 6);
        c.due("ENDS stay", x.free(1), 1);
    }

    private static void ends() {
        Check c = new Check("promise 22");
        DeepHole x = new DeepHole();
        x.pull(10, 50);
        c.due("ends(9, 1000, 1000)", x.ends(9, 1000, 1000), 1);
        c.due("least", x.free(0), 0);
        c.due("greatest", x.free(1), 1050000);
        c.due("ends(0, 0, 1)", x.ends(0, 0, 1), 1);
        c.due("least", x.free(0), 5);
        int[][] wrong = {{-1, 0, 1}, {10, 0, 1}, {0, -1, 1}, {0, 1001, 1}, {0, 0, 0}, {0, 0, 1001}};
        for (int[] w : wrong) {
            c.due("ends(" + w[0] + ", " + w[1] + ", " + w[2] + ")", x.ends(w[0], w[1], w[2]), BAD);
        }
        c.due("they stay, least", x.free(0), 5);
        c.due("they stay, greatest", x.free(1), 5);
    }

    private static void freeByOne() {
        Check c = new Check("promise 23, one pull");
        DeepHole x = new DeepHole();
        x.pull(30, 1);
        c.due("cut", x.free(0), 3);
        c.due("rounded up", x.free(1), 4);
        x.ends(3, 2, 100);
        c.due("below 0 is 0", x.free(0), 0);
        c.due("300 by 27", x.free(1), 12);
        x.slack();
        x.pull(100, 50);
        c.due("4800 by 103", x.free(0), 46);
        c.due("5200 by 97", x.free(1), 54);
        x.slack();
        x.pull(10, 100000);
        x.ends(9, 1000, 1000);
        c.due("the farthest, least", x.free(0), 99000000 / 19);
        c.due("the farthest, greatest", x.free(1), 101000000);
    }

    private static void freeByMany() {
        Check c = new Check("promise 23, many pulls");
        DeepHole x = new DeepHole();
        c.due("none", x.free(0), Check.LONG_NOT);
        c.due("free(-1)", x.free(-1), Check.LONG_BAD);
        c.due("free(2)", x.free(2), Check.LONG_BAD);
        x.ends(0, 5, 100);
        x.pull(100, 50);
        x.pull(100, 58);
        c.due("what is in both, least", x.free(0), 53);
        c.due("what is in both, greatest", x.free(1), 55);
        x.pull(100, 60);
        c.due("just one, least", x.free(0), 55);
        c.due("just one, greatest", x.free(1), 55);
        x.pull(100, 61);
        c.due("nothing, least", x.free(0), Check.LONG_NOT);
        c.due("nothing, greatest", x.free(1), Check.LONG_NOT);
        c.due("BAD stays BAD", x.free(3), Check.LONG_BAD);
    }
}
