import java.util.List;

/** Two objects with the same run behind them: if they answer alike ever after, a call on one changed nothing. */
final class Twins {
    private static final List<Runs.Step> QUESTIONS = Runs.steps(questions());

    private Twins() {
    }

    /** Asks for all that an object tells; what changes it itself comes last. */
    private static String questions() {
        StringBuilder run = new StringBuilder();
        run.append("count 0; count 1; count 2; count 3; count 4; count 6; count 7; digest; broken;");
        run.append("bears 140 120; bears 140 140;");
        for (int p = 0; p <= 6; p++) {
            for (int what = 0; what <= 5; what++) {
                run.append("gas ").append(p).append(' ').append(what).append(';');
            }
        }
        run.append("speed 175 1; speed 175 6; trip 175; trip 0; lightest 300; lightest 100000; breaks 0; breaks 170;");
        run.append("window 0 49 0; window 0 49 1; window 0 2 0; window 0 2 1;");
        run.append("free 0; free 1; nearest; where 0; where 1;");
        for (int d = 1; d <= 8; d++) {
            run.append("plan ").append(d).append("; shoe ").append(d).append(" 0; shoe ").append(d).append(" 1;");
        }
        for (int i : new int[] {0, 1, 2, 3, 40}) {
            for (int hole = 0; hole <= 1; hole++) {
                run.append("place ").append(hole).append(' ').append(i).append(" 0;");
                run.append("place ").append(hole).append(' ').append(i).append(" 1;");
            }
        }
        for (int s = 0; s <= 3; s++) {
            for (int i : new int[] {0, 1, 2, 3, 59}) {
                for (int form = 0; form <= 2; form++) {
                    run.append("get ").append(s).append(' ').append(form).append(' ').append(i).append(';');
                }
            }
        }
        run.append("slack; pull 50 7; free 0; free 1; pull 10 9; free 0; free 1; cap 1; swab 1; bare; plan 1;");
        return run.append("begin 0 0; begin 1 0; lose 0; lose 1; lose 2; lose 3").toString();
    }

    /** Each call answers as due and changes nothing; after a FINDING count(5) tells it, and that is all. */
    static void keep(String sentence, String before, String... calls) {
        for (String call : calls) {
            keep(new Check(sentence), before, new Runs.Step(call));
        }
    }

    /** The call answers as in the Model, and so do all questions behind it. */
    static void likeModel(String sentence, String before, String text) {
        Check c = new Check(sentence);
        DeepHole x = new DeepHole();
        Model model = new Model();
        for (Runs.Step step : Runs.steps(before)) {
            step.on(x);
            model.answer(step.name, step.numbers);
        }
        Runs.Step call = new Runs.Step(text);
        c.due(call.toString(), call.on(x), model.answer(call.name, call.numbers));
        c.due("count(5) behind " + call, x.count(5), model.answer("count", new int[] {5}));
        for (Runs.Step question : QUESTIONS) {
            c.due(question + " behind " + call, question.on(x), model.answer(question.name, question.numbers));
        }
    }

    private static void keep(Check c, String before, Runs.Step call) {
        if (Runs.steps(before).size() + 2 + QUESTIONS.size() > Runs.CALLS) {
            throw new IllegalArgumentException("too long a run");
        }
        DeepHole touched = Runs.behind(before);
        DeepHole twin = Runs.behind(before);
        call.isDue(c, touched);
        int finding = call.finding();
        c.due("count(5) behind " + call, touched.count(5), finding == 0 ? twin.count(5) : finding);
        for (Runs.Step question : QUESTIONS) {
            c.due(question + " behind " + call, question.on(touched), question.on(twin));
        }
    }
}
