/** What a run left to ask for, as texts that a test can state at a glance. */
final class Told {
    private static final String[] KINDS = {"make", "makeFails", "end", "endFails", "steps"};

    private Told() {
    }

    /** Such as "make 0=1, steps 0.0, end 0=1": FIXTURE=VALUE, or of steps place.TRY. */
    static String events(FixtureOrder x) {
        StringBuilder text = new StringBuilder();
        for (int i = 0; i < x.events(); i++) {
            int kind = x.event(i, 0);
            text.append(i == 0 ? "" : ", ").append(KINDS[kind]).append(' ');
            text.append(x.event(i, 1)).append(kind == 4 ? '.' : '=').append(x.event(i, 2));
        }
        return text.toString();
    }

    /** Of each CASE "TEST.number:OUTCOME unmade suppressed tries". */
    static String outcomes(FixtureOrder x, int cases) {
        StringBuilder text = new StringBuilder();
        for (int i = 0; i < cases; i++) {
            text.append(i == 0 ? "" : ", ").append(x.outcome(i, 0)).append('.').append(x.outcome(i, 1));
            text.append(':').append(x.outcome(i, 2)).append(' ').append(x.outcome(i, 3));
            text.append(' ').append(x.outcome(i, 4)).append(' ').append(x.outcome(i, 5));
        }
        return text.toString();
    }

    static String closure(FixtureOrder x, int test) {
        StringBuilder text = new StringBuilder();
        for (int i = 0; x.closure(test, i) != FixtureOrder.NONE; i++) {
            text.append(i == 0 ? "" : " ").append(x.closure(test, i));
        }
        return text.toString();
    }

    static String counted(FixtureOrder x, int fixture) {
        return x.counted(fixture, 0) + " " + x.counted(fixture, 1) + " " + x.counted(fixture, 2);
    }
}
