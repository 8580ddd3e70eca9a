/** Promise 1: what a new object answers before any other call. */
public final class NewObjectTest {
    public static void main(String[] args) {
        counts();
        paths();
        sheets();
        ground();
        settings();
        kicksAndPulls();
        objectsAreApart();
        Check.end();
    }

    private static void counts() {
        Check c = new Check("promise 1, count");
        for (int what = 0; what <= 7; what++) {
            c.due("count(" + what + ")", new DeepHole().count(what), 0);
        }
        c.due("count(-1)", new DeepHole().count(-1), DeepHole.BAD);
        c.due("count(8)", new DeepHole().count(8), DeepHole.BAD);
    }

    private static void paths() {
        Check c = new Check("promise 1, paths");
        DeepHole x = new DeepHole();
        for (int hole = 0; hole <= 1; hole++) {
            c.due("where", x.where(hole), DeepHole.NOT);
            c.due("place X", x.place(hole, 0, 0), 0);
            c.due("place Y", x.place(hole, 0, 1), 0);
            c.due("place 1", x.place(hole, 1, 0), Check.LEAST_INT);
        }
        c.due("nearest", x.nearest(), Check.LONG_NOT);
        c.due("where(-1)", x.where(-1), DeepHole.BAD);
        c.due("where(2)", x.where(2), DeepHole.BAD);
    }

    private static void sheets() {
        Check c = new Check("promise 1, sheets");
        for (int s = 0; s <= 3; s++) {
            DeepHole x = new DeepHole();
            c.due("get", x.get(s, 0, 0), Check.LEAST_INT);
            c.due("count(5)", x.count(5), 1);
            c.due("put", x.put(s, 0, 0, 1), -11);
            c.due("lose", x.lose(s), -11);
            c.due("copy", x.copy(s, 0, s, 0, 0), -11);
        }
    }

    private static void ground() {
        Check c = new Check("promise 1, ground");
        DeepHole x = new DeepHole();
        for (int i = 0; i < 50; i++) {
            c.due("ground(0, " + i + ")", x.ground(0, i), 0);
            c.due("ground(1, " + i + ")", x.ground(1, i), 3000);
        }
        c.due("window, least", x.window(0, 49, 0), 0);
        c.due("window, greatest", x.window(0, 49, 1), 3000);
        c.due("breaks", x.breaks(3000), DeepHole.NONE);
        c.due("trip", x.trip(0), 0);
        c.due("lightest", x.lightest(0), 0);
        c.due("speed", x.speed(0, 1), DeepHole.BAD);
    }

    private static void settings() {
        Check c = new Check("promise 1, settings");
        DeepHole x = new DeepHole();
        c.due("cap", x.cap(1), 10);
        c.due("swab", x.swab(1), 100);
        c.due("bare", x.bare(), 0);
        c.due("slack", x.slack(), 0);
        c.due("begin(0, 5)", x.begin(0, 5), 0);
        c.due("begin(1, 5)", x.begin(1, 5), 0);
        x.pull(10, 7);
        c.due("free by K 100 and no ENDS, least", x.free(0), 70);
        c.due("free by K 100 and no ENDS, greatest", x.free(1), 70);
    }

    private static void kicksAndPulls() {
        Check c = new Check("promise 1, kicks and pulls");
        DeepHole x = new DeepHole();
        c.due("gas(0, 0)", x.gas(0, 0), Check.LONG_NOT);
        c.due("gas(1, 0)", x.gas(1, 0), Check.LONG_BAD);
        c.due("broken", x.broken(), DeepHole.NOT);
        c.due("kick", x.kick(1, 1, 1), DeepHole.NOT);
        c.due("bears", x.bears(1, 1), DeepHole.NOT);
        c.due("free(0)", x.free(0), Check.LONG_NOT);
        c.due("free(1)", x.free(1), Check.LONG_NOT);
        c.due("free(2)", x.free(2), Check.LONG_BAD);
        c.due("plan", x.plan(1), DeepHole.NOT);
        c.due("shoe", x.shoe(1, 0), DeepHole.NOT);
    }

    private static void objectsAreApart() {
        Check c = new Check("promise 1, two objects");
        DeepHole used = new DeepHole();
        used.hole(50, 3);
        used.margins(1, 2);
        used.string(3, 4);
        used.pull(100, 100);
        used.station(0, 1, 1);
        Grounds.fill(used, 0, 44);
        used.get(3, 0, 0);
        DeepHole x = new DeepHole();
        for (int what = 0; what <= 7; what++) {
            c.due("count(" + what + ") of the other", x.count(what), 0);
        }
        c.due("ground of the other", x.ground(0, 0), 0);
        c.due("digest of the other", x.digest(), new DeepHole().digest());
    }
}
