import java.lang.management.ManagementFactory;
import java.util.List;

/** "An object is used for at most 512 calls": the 512th is answered as the first is, and calls take up no room. */
public final class LifeTest {
    public static void main(String[] args) {
        lastCalls();
        findings();
        stringsPullsStations();
        manyObjects();
        roomOfCalls();
        Check.end();
    }

    private static void lastCalls() {
        Runs.due("What it is, the 512th call, rows", Runs.times(510, "sheet 0 2 60"),
            "put 0 2 59 7 = 1; get 0 2 59 = 7");
        Runs.due("What it is, the 512th call, kicks", "hole 50 10", Runs.times(510, "kick 1000 3000 1"),
            "gas 50 0 = 150000");
        Runs.due("What it is, the 512th call, copies", "sheet 0 2 60; put 0 2 0 9", Runs.times(509, "copy 0 0 0 1 59"),
            "get 0 2 59 = 9");
        Runs.due("What it is, the 512th call, plans", "string 9 50; string 3 50", Runs.times(509, "plan 50"),
            "shoe 50 1 = 50");
        Runs.due("What it is, the 512th call, counts", "hole 50 1", Runs.times(510, "digest"), "count 0 = 50");
    }

    private static void findings() {
        Runs.due("What it is, 511 FINDINGS", Runs.times(510, "lose 3 = NULL"), "sheet 3 0 -1 = SIZE; count 5 = 5");
        Runs.due("What it is, 511 refusals", Runs.times(511, "hole 51 51 = BAD"), "count 0 = 0");
    }

    private static void stringsPullsStations() {
        Runs.due("What it is, STRINGS come and go", Runs.times(255, "string 9 50 = 1; bare = 1"),
            "string 2 50 = 1; plan 50 = 100");
        Runs.due("What it is, PULLS come and go", Runs.times(255, "pull 10 9 = 1; slack = 1"),
            "pull 10 2 = 1; free 1 = 20");
        Runs.due("What it is, STATIONS come and go", Runs.times(12, Runs.times(40, "station 0 1 1") + "begin 0 7 = 40"),
            "station 0 1 1 = 1; place 0 1 0 = 23; count 4 = 1");
        Runs.due("What it is, SHEETS come and go", Runs.times(170, "sheet 1 0 60 = 60; put 1 0 0 9 = 1; lose 1 = 60"),
            "ground 1 0 = 3000; lose 1 = NULL");
    }

    /** No state is shared, and each object is made as the first was. */
    private static void manyObjects() {
        Check c = new Check("What it is, many objects");
        DeepHole first = Runs.behind(States.FULL);
        long due = first.digest();
        for (int n = 0; n < 1000; n++) {
            c.due("digest() of a new object", new DeepHole().digest(), -942877355852260417L);
            c.due("digest() of a full one", Runs.behind(States.FULL).digest(), due);
        }
        c.due("digest() of the first", first.digest(), due);
    }

    /** All calls of a run live in one room of some 600,000 objects and 7.3 million fields and elements. */
    private static void roomOfCalls() {
        Check c = new Check("the room");
        List<Runs.Step> dear = Runs.steps("plan 50; shoe 50 5; bears 3000 1; kick 1000 3000 3000; gas 50 5; broken;"
            + "trip 3000; lightest 100000; breaks 0; window 0 49 1; free 1; nearest; where 1; sheet 3 2 60;"
            + "copy 3 0 3 1 59; put 3 2 5 5; get 3 2 5; lose 3; begin 0 5; station 0 3 1; string 5 5;"
            + "pull 50 5; digest");
        DeepHole x = Runs.behind(States.FULL);
        bytesOf(x, dear);
        c.holds("calls take up no room", bytesOf(x, dear) < 1000);
        long before = bytes();
        DeepHole made = new DeepHole();
        long taken = bytes() - before;
        c.due("it is made", made.count(0), 0);
        c.holds("an object takes up little room: " + taken, taken < 20000);
    }

    private static long bytesOf(DeepHole x, List<Runs.Step> steps) {
        long before = bytes();
        for (int i = 0; i < steps.size(); i++) {
            steps.get(i).on(x);
        }
        return bytes() - before;
    }

    private static long bytes() {
        com.sun.management.ThreadMXBean thread = (com.sun.management.ThreadMXBean) ManagementFactory.getThreadMXBean();
        return thread.getThreadAllocatedBytes(Thread.currentThread().getId());
    }
}
