import java.util.ArrayList;
import java.util.List;
import java.util.Map;

/**
 * Runs of calls on a new object, written as text: "hole 20 5 = 1; breaks 130 = NONE". Behind = stands what is due, as a
 * number or as the name of a refusal or FINDING in the form that it has in this call; without = any answer will do.
 * MIN and MAX are the least and the greatest int.
 */
final class Runs {
    /** An object is used for at most so many calls. */
    static final int CALLS = 512;
    private static final Map<String, Integer> REFUSALS = Map.of("NONE", -1, "BAD", -2, "NOT", -3, "FULL", -4,
        "NULL", -11, "INDEX", -12, "CAST", -13, "STORE", -14, "SIZE", -15);

    /** One call and what is due; null: any answer will do. */
    static final class Step {
        final String name;
        final int[] numbers;
        final String due;

        Step(String text) {
            String[] sides = text.trim().split("\\s*=\\s*");
            String[] words = sides[0].split("\\s+");
            name = words[0];
            numbers = new int[words.length - 1];
            for (int i = 0; i < numbers.length; i++) {
                numbers[i] = number(words[i + 1]);
            }
            due = sides.length == 1 ? null : sides[1];
        }

        private static int number(String word) {
            switch (word) {
                case "MIN": return Integer.MIN_VALUE;
                case "MAX": return Integer.MAX_VALUE;
                default: return Integer.parseInt(word);
            }
        }

        long on(DeepHole x) {
            return Calls.answer(x, name, numbers);
        }

        boolean isDue(Check c, DeepHole x) {
            long got = on(x);
            if (due == null) {
                return true;
            }
            Integer refusal = REFUSALS.get(due);
            long want = refusal == null ? Long.parseLong(due) : Calls.refusal(name, refusal);
            c.due(toString(), got, want);
            return got == want;
        }

        /** The number of the FINDING that is due; 0: none is. */
        int finding() {
            Integer refusal = due == null ? null : REFUSALS.get(due);
            return refusal == null || refusal > -10 ? 0 : -10 - refusal;
        }

        @Override
        public String toString() {
            return Calls.text(name, numbers);
        }
    }

    private Runs() {
    }

    static List<Step> steps(String run) {
        List<Step> steps = new ArrayList<>();
        for (String text : run.split(";")) {
            if (!text.isBlank()) {
                steps.add(new Step(text));
            }
        }
        if (steps.size() > CALLS) {
            throw new IllegalArgumentException("a run of " + steps.size() + " calls");
        }
        return steps;
    }

    /** A new object with a run behind it. */
    static DeepHole behind(String run) {
        DeepHole x = new DeepHole();
        for (Step step : steps(run)) {
            step.on(x);
        }
        return x;
    }

    /** All parts are one run on one new object, to test one sentence of the document. */
    static void due(String sentence, String... parts) {
        Check c = new Check(sentence);
        DeepHole x = new DeepHole();
        for (Step step : steps(String.join(";", parts))) {
            step.isDue(c, x);
        }
    }

    /** The same text again and again, as a run. */
    static String times(int n, String text) {
        return (text + ";").repeat(n);
    }
}
