/** Promises 7 to 10: string, bare, plan, shoe. */
public final class CasingsTest {
    private static final int BAD = DeepHole.BAD, NOT = DeepHole.NOT;

    public static void main(String[] args) {
        string();
        bare();
        planOfOne();
        planThatMustPart();
        planByReach();
        likePlans();
        refusals();
        deepPlan();
        Check.end();
    }

    private static void string() {
        Check c = new Check("promise 7");
        DeepHole x = new DeepHole();
        int[][] wrong = {{0, 1}, {1001, 1}, {1, 0}, {1, 51}, {-5, 5}, {5, -5}};
        for (int[] w : wrong) {
            c.due("string(" + w[0] + ", " + w[1] + ")", x.string(w[0], w[1]), BAD);
        }
        c.due("none yet", x.count(2), 0);
        for (int n = 1; n <= 6; n++) {
            c.due("string " + n, x.string(n == 1 ? 1 : 1000, n == 1 ? 1 : 50), n);
            c.due("count(2)", x.count(2), n);
        }
        c.due("one too many", x.string(1, 1), DeepHole.FULL);
        c.due("BAD ahead of FULL", x.string(0, 1), BAD);
        c.due("six stay", x.count(2), 6);
    }

    private static void bare() {
        Check c = new Check("promise 8");
        DeepHole x = new DeepHole();
        c.due("bare of none", x.bare(), 0);
        x.string(7, 50);
        x.string(8, 50);
        c.due("bare of two", x.bare(), 2);
        c.due("count(2)", x.count(2), 0);
        c.due("no plan", x.plan(1), NOT);
        c.due("again", x.bare(), 0);
        c.due("a string more", x.string(3, 50), 1);
        c.due("only the new one", x.plan(10), 30);
    }

    private static void planOfOne() {
        Check c = new Check("promise 9, one string");
        DeepHole x = new DeepHole();
        x.string(9, 30);
        c.due("plan(1)", x.plan(1), 9);
        c.due("plan(30)", x.plan(30), 270);
        c.due("beyond its REACH", x.plan(31), NOT);
        c.due("shoe(30, 0)", x.shoe(30, 0), 30);
        Grounds.fill(x, 0, 100, 100, 200, 100);
        Grounds.fill(x, 1, 150, 150, 250, 150);
        c.due("to the PIECE ahead of the step", x.plan(2), 18);
        c.due("one MUD does not HOLD it", x.plan(3), NOT);
        x.string(1, 50);
        x.put(1, 2, 0, 99);
        c.due("no MUD HOLDS the first PIECE", x.plan(2), NOT);
        c.due("nor it alone", x.plan(1), NOT);
        c.due("SHOE of no plan", x.shoe(2, 0), NOT);
    }

    /** Ground of three layers, so that a PLAN to 9 needs SHOES between them. */
    private static DeepHole layered() {
        DeepHole x = new DeepHole();
        Grounds.fill(x, 0, 100, 100, 100, 200, 200, 200, 300, 300, 300);
        Grounds.fill(x, 1, 150, 150, 150, 250, 250, 250, 350, 350, 350);
        return x;
    }

    private static void planThatMustPart() {
        Check c = new Check("promises 9 and 10, layers");
        DeepHole x = layered();
        x.string(10, 50);
        x.string(10, 50);
        c.due("too few strings", x.plan(9), NOT);
        c.due("shoe of no plan", x.shoe(9, 0), NOT);
        x.string(10, 50);
        c.due("plan(9)", x.plan(9), 30 + 60 + 90);
        c.due("shoe(9, 0)", x.shoe(9, 0), 3);
        c.due("shoe(9, 1)", x.shoe(9, 1), 6);
        c.due("shoe(9, 2)", x.shoe(9, 2), 9);
        c.due("shoe(9, 3)", x.shoe(9, 3), BAD);
        c.due("plan(6)", x.plan(6), 30 + 60);
        c.due("shoe(6, 0)", x.shoe(6, 0), 3);
        c.due("shoe(6, 1)", x.shoe(6, 1), 6);
        c.due("shoe(6, 2)", x.shoe(6, 2), BAD);
        c.due("plan(4)", x.plan(4), 30 + 40);
        x.margins(25, 25);
        c.due("margins that just do", x.plan(9), 180);
        x.margins(25, 26);
        c.due("margins that are too much", x.plan(9), NOT);
        x.margins(0, 0);
        x.string(1, 50);
        c.due("a cheap string more shortens the others", x.plan(9), 10 + 30 + 60 + 9);
        c.due("shoe(9, 0)", x.shoe(9, 0), 1);
        c.due("shoe(9, 1)", x.shoe(9, 1), 3);
        c.due("shoe(9, 2)", x.shoe(9, 2), 6);
        c.due("shoe(9, 3)", x.shoe(9, 3), 9);
    }

    private static void planByReach() {
        Check c = new Check("promises 9 and 10, reach and price");
        DeepHole x = new DeepHole();
        x.string(100, 4);
        x.string(1, 50);
        c.due("a dear string as short as can be", x.plan(20), 100 + 20);
        c.due("its SHOE", x.shoe(20, 0), 1);
        c.due("the cheap one's", x.shoe(20, 1), 20);
        c.due("the dear one alone to 1", x.plan(1), 100);
        c.due("at its REACH both", x.plan(4), 104);
        x.bare();
        x.string(1, 2);
        x.string(1, 4);
        x.string(1, 9);
        c.due("the strings stand in order", x.plan(9), 1 + 2 + 9);
        c.due("beyond all", x.plan(10), NOT);
        c.due("two do to 4", x.plan(4), 5);
        c.due("SHOE 0 to 4", x.shoe(4, 0), 1);
    }

    /**
     * Of two PLANS with as many strings the one with the lesser SHOE at each string is a PLAN too and costs less, so
     * like ones differ in the number of strings alone.
     */
    private static void likePlans() {
        Check c = new Check("promises 9 and 10, like plans");
        DeepHole x = new DeepHole();
        x.string(6, 50);
        x.string(3, 50);
        c.due("one string and two cost alike to 2", x.plan(2), 12);
        c.due("it is one", x.shoe(2, 0), 2);
        c.due("and no other", x.shoe(2, 1), BAD);
        c.due("two are cheaper to 3", x.plan(3), 15);
        c.due("SHOE 0", x.shoe(3, 0), 1);
        c.due("SHOE 1", x.shoe(3, 1), 3);
        x.bare();
        x.string(4, 50);
        x.string(3, 50);
        x.string(2, 50);
        c.due("two strings and three cost alike to 6", x.plan(6), 4 + 18);
        c.due("it is two", x.shoe(6, 2), BAD);
        c.due("three are cheaper to 7", x.plan(7), 4 + 6 + 14);
        c.due("SHOE 1", x.shoe(7, 1), 2);
    }

    private static void refusals() {
        Check c = new Check("promises 9 and 10, refusals");
        DeepHole x = new DeepHole();
        c.due("plan(0)", x.plan(0), BAD);
        c.due("plan(51)", x.plan(51), BAD);
        c.due("plan(-1)", x.plan(-1), BAD);
        c.due("plan(50) of none", x.plan(50), NOT);
        c.due("shoe(0, 0)", x.shoe(0, 0), BAD);
        c.due("shoe(51, 0)", x.shoe(51, 0), BAD);
        c.due("BAD i ahead of NOT", x.shoe(5, -1), BAD);
        c.due("NOT ahead of BAD i", x.shoe(5, 6), NOT);
        x.string(1, 50);
        c.due("no such SHOE", x.shoe(5, 1), BAD);
        c.due("no such SHOE at all", x.shoe(5, Integer.MAX_VALUE), BAD);
        c.due("it has not to do with THE HOLE", x.plan(50), 50);
    }

    private static void deepPlan() {
        Check c = new Check("promises 9 and 10, to 50");
        DeepHole x = new DeepHole();
        int[] pores = new int[50];
        int[] fracs = new int[50];
        for (int i = 0; i < 50; i++) {
            pores[i] = 100 + 10 * i;
            fracs[i] = 195 + 10 * i;
        }
        Grounds.fill(x, 0, pores);
        Grounds.fill(x, 1, fracs);
        for (int i = 0; i < 6; i++) {
            x.string(1000 - 100 * i, 50);
        }
        // One MUD HOLDS ten PIECES, so 50 need five strings; the sixth makes the others shorter.
        c.due("cost", x.plan(50), 1000 + 900 * 10 + 800 * 20 + 700 * 30 + 600 * 40 + 500 * 50);
        int[] shoes = {1, 10, 20, 30, 40, 50};
        for (int i = 0; i < 6; i++) {
            c.due("shoe(50, " + i + ")", x.shoe(50, i), shoes[i]);
        }
        c.due("shoe(50, 6)", x.shoe(50, 6), BAD);
    }
}
