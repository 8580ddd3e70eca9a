import java.util.Set;

/** Calls of DeepHole by their names, so that tests can draw them by lot or hold them in rows of text. */
final class Calls {
    private static final Set<String> LONGS = Set.of("gas", "free", "nearest", "digest");
    private static final Set<String> LEAST_INTS = Set.of("place", "get");

    private Calls() {
    }

    /** What a refusal or FINDING of this number is as the answer of this call. */
    static long refusal(String name, int number) {
        if (LEAST_INTS.contains(name)) {
            return Integer.MIN_VALUE;
        }
        return LONGS.contains(name) ? Long.MIN_VALUE - number : number;
    }

    static String text(String name, int... a) {
        StringBuilder text = new StringBuilder(name).append('(');
        for (int i = 0; i < a.length; i++) {
            text.append(i == 0 ? "" : ", ").append(a[i]);
        }
        return text.append(')').toString();
    }

    static long answer(DeepHole hole, String name, int... a) {
        switch (name) {
            case "hole": return hole.hole(a[0], a[1]);
            case "margins": return hole.margins(a[0], a[1]);
            case "ground": return hole.ground(a[0], a[1]);
            case "breaks": return hole.breaks(a[0]);
            case "window": return hole.window(a[0], a[1], a[2]);
            case "string": return hole.string(a[0], a[1]);
            case "bare": return hole.bare();
            case "plan": return hole.plan(a[0]);
            case "shoe": return hole.shoe(a[0], a[1]);
            case "cap": return hole.cap(a[0]);
            case "kick": return hole.kick(a[0], a[1], a[2]);
            case "gas": return hole.gas(a[0], a[1]);
            case "broken": return hole.broken();
            case "bears": return hole.bears(a[0], a[1]);
            case "swab": return hole.swab(a[0]);
            case "speed": return hole.speed(a[0], a[1]);
            case "trip": return hole.trip(a[0]);
            case "lightest": return hole.lightest(a[0]);
            default: return answerOfTheRest(hole, name, a);
        }
    }

    private static long answerOfTheRest(DeepHole hole, String name, int[] a) {
        switch (name) {
            case "pull": return hole.pull(a[0], a[1]);
            case "slack": return hole.slack();
            case "ends": return hole.ends(a[0], a[1], a[2]);
            case "free": return hole.free(a[0]);
            case "begin": return hole.begin(a[0], a[1]);
            case "station": return hole.station(a[0], a[1], a[2]);
            case "place": return hole.place(a[0], a[1], a[2]);
            case "nearest": return hole.nearest();
            case "where": return hole.where(a[0]);
            case "sheet": return hole.sheet(a[0], a[1], a[2]);
            case "lose": return hole.lose(a[0]);
            case "put": return hole.put(a[0], a[1], a[2], a[3]);
            case "get": return hole.get(a[0], a[1], a[2]);
            case "copy": return hole.copy(a[0], a[1], a[2], a[3], a[4]);
            case "count": return hole.count(a[0]);
            case "digest": return hole.digest();
            default: throw new IllegalArgumentException(name);
        }
    }
}
