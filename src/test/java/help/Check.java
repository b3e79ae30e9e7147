/** Counts the answers of a test and prints those that are not due. */
final class Check {
    private static int wrong = 0;
    private static int asked = 0;

    private Check() {
    }

    static void due(String call, long got, long want) {
        asked++;
        if (got != want) {
            wrong++;
            System.out.println(call + " answered " + got + ", due is " + want);
        }
    }

    static void that(String what, boolean holds) {
        due(what, holds ? 1 : 0, 1);
    }

    /** Feeds a text of up to 60 signs to the tape. */
    static void feed(SwarmPlanner planner, String text) {
        for (int at = 0; at < text.length(); at += 5) {
            int n = Math.min(5, text.length() - at);
            int want = planner.count(0) + n;
            due("feed of \"" + text + "\" at " + at, planner.feed(n, sign(text, at), sign(text, at + 1),
                    sign(text, at + 2), sign(text, at + 3), sign(text, at + 4)), want);
        }
    }

    static int shape(SwarmPlanner planner, int shape, String text) {
        feed(planner, text);
        return planner.shape(shape);
    }

    static int execute(SwarmPlanner planner, String text) {
        feed(planner, text);
        return planner.execute();
    }

    private static int sign(String text, int at) {
        return at < text.length() ? text.charAt(at) : 0;
    }

    static int wrongSoFar() {
        return wrong;
    }

    /** Ends the test with exit code 1 if an answer was wrong. */
    static void end() {
        System.out.println(asked + " answers, " + wrong + " of them not as due");
        if (wrong > 0 || asked == 0) {
            System.exit(1);
        }
    }
}
