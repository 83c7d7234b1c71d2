/** Promise 8: which CASES a run takes, in which ORDER, and when it is refused. A test for each sentence. */
public final class RunTest {
    private static final int LEAST = Integer.MIN_VALUE;
    private static final int MOST = Integer.MAX_VALUE;
    private static final int NONE = FixtureOrder.NONE;
    private static final int CASE = 0;
    private static final int FILE = 1;
    private static final int SESSION = 2;
    private static final Check CHECK = new Check();

    public static void main(String[] args) {
        noTests();
        howManyCases();
        noSuchOrder();
        moreThanForty();
        farMoreThanForty();
        nothingIsRunThen();
        refusedOrderRunsNothing();
        everyRunBeginsAnew();
        byTestsThenByCases();
        byFewestUnmade();
        byFewestUnmadeOfTheFirst();
        byFewestUnmadeOfFile();
        byFewestUnmadeOfCaseScope();
        byFewestUnmadeWithItsValue();
        byFewestUnmadeOfWhatFailed();
        byFewestUnmadeOfForty();
        the512thCall();
        CHECK.finish();
    }

    /** TESTS with 8 CASES each, all of FILE 0. */
    private static FixtureOrder withEights(int tests) {
        FixtureOrder x = new FixtureOrder();
        x.fixture(SESSION, 3, false, false);
        x.fixture(SESSION, 3, false, false);
        for (int test = 0; test < tests; test++) {
            x.test(0);
            x.uses(test, 0);
            x.uses(test, 1);
        }
        return x;
    }

    /** In which order the CASES were run, as TEST.number. */
    private static String taken(FixtureOrder x, int cases) {
        StringBuilder text = new StringBuilder();
        for (int i = 0; i < cases; i++) {
            text.append(i == 0 ? "" : " ").append(x.outcome(i, 0)).append('.').append(x.outcome(i, 1));
        }
        return text.toString();
    }

    private static void noTests() {
        CHECK.sentence(8, "how many CASES there were: no TESTS");
        FixtureOrder x = new FixtureOrder();
        x.fixture(SESSION, 3, true, true);
        for (int order = 0; order <= 1; order++) {
            CHECK.due("run(" + order + ")", 0, x.run(order));
            CHECK.due("events()", 0, x.events());
            CHECK.due("outcome(0, 0)", NONE, x.outcome(0, 0));
            CHECK.dueText("counted(0, ..)", "0 0 0", Told.counted(x, 0));
        }
    }

    private static void howManyCases() {
        CHECK.sentence(8, "how many CASES there were");
        FixtureOrder x = new FixtureOrder();
        x.fixture(SESSION, 3, false, false);
        x.fixture(CASE, 2, false, false);
        int due = 0;
        for (int test = 0; test < 8; test++) {
            x.test(test);
            if (test % 2 == 1) {
                x.uses(test, 0);
            }
            if (test % 4 > 1) {
                x.uses(test, 1);
            }
            due += (test % 2 == 1 ? 3 : 1) * (test % 4 > 1 ? 2 : 1);
            CHECK.due("run(0)", due, x.run(0));
            CHECK.due("run(1)", due, x.run(1));
        }
    }

    private static void noSuchOrder() {
        CHECK.sentence(8, "NONE if there is no such ORDER");
        FixtureOrder x = withEights(1);
        int[] wrong = {-1, 2, 3, LEAST, MOST};
        for (int order : wrong) {
            CHECK.due("run(" + order + ")", NONE, x.run(order));
            CHECK.due("run(" + order + ") without TESTS", NONE, new FixtureOrder().run(order));
        }
        CHECK.due("run(0)", 8, x.run(0));
        CHECK.due("run(1)", 8, x.run(1));
    }

    private static void moreThanForty() {
        CHECK.sentence(8, "NONE if there would be more than 40");
        for (int order = 0; order <= 1; order++) {
            FixtureOrder x = withEights(5);
            CHECK.due("run(" + order + ") of 40", 40, x.run(order));
            CHECK.due("outcome(39, 0)", 4, x.outcome(39, 0));
            CHECK.due("outcome(39, 1)", order == 0 ? 7 : 6, x.outcome(39, 1));
            CHECK.due("outcome(40, 0)", NONE, x.outcome(40, 0));
            x.test(0);
            CHECK.due("run(" + order + ") of 41", NONE, x.run(order));
        }
    }

    private static void farMoreThanForty() {
        CHECK.sentence(8, "NONE if there would be more than 40: 160");
        FixtureOrder x = withEights(20);
        CHECK.due("run(0)", NONE, x.run(0));
        CHECK.due("run(1)", NONE, x.run(1));
        CHECK.due("events()", 0, x.events());
        CHECK.due("outcome(0, 0)", NONE, x.outcome(0, 0));
        CHECK.due("counted(0, 0)", NONE, x.counted(0, 0));
    }

    private static void nothingIsRunThen() {
        CHECK.sentence(8, "nothing is run then");
        FixtureOrder x = withEights(5);
        x.run(0);
        String events = Told.events(x);
        String outcomes = Told.outcomes(x, 40);
        FixtureOrder y = withEights(5);
        y.run(0);
        y.takes(0, 1, 0);
        y.test(0);
        y.uses(5, 0);
        y.fixture(SESSION, 1, false, false);
        y.uses(0, 2);
        CHECK.due("run(0)", NONE, y.run(0));
        CHECK.due("run(1)", NONE, y.run(1));
        CHECK.dueText("EVENTS of the run before", events, Told.events(y));
        CHECK.dueText("OUTCOMES of the run before", outcomes, Told.outcomes(y, 40));
        CHECK.dueText("counted(0, ..) of the run before", Told.counted(x, 0), Told.counted(y, 0));
        CHECK.due("counted(2, 0) of one that has come since", NONE, y.counted(2, 0));
    }

    private static void refusedOrderRunsNothing() {
        CHECK.sentence(8, "nothing is run then: no such ORDER");
        FixtureOrder x = withEights(1);
        x.run(1);
        String events = Told.events(x);
        x.takes(0, 1, 0);
        x.fixture(SESSION, 1, false, false);
        x.uses(0, 2);
        CHECK.due("run(2)", NONE, x.run(2));
        CHECK.dueText("EVENTS of the run before", events, Told.events(x));
        CHECK.due("outcome(0, 2) of the run before", 1, x.outcome(0, 2));
        CHECK.due("counted(1, 0) of the run before", 6, x.counted(1, 0));
        CHECK.due("counted(2, 0) of one that has come since", NONE, x.counted(2, 0));
    }

    private static void everyRunBeginsAnew() {
        CHECK.sentence(8, "RUNS all");
        FixtureOrder x = new FixtureOrder();
        x.fixture(SESSION, 2, false, true);
        x.fixture(SESSION, 1, true, false);
        x.fixture(FILE, 1, true, false);
        for (int test = 0; test < 3; test++) {
            x.test(test);
            x.uses(test, test);
        }
        String due = "make 0=0, steps 0.0, endFails 0=0, make 0=1, steps 1.0, "
                + "makeFails 1=0, makeFails 2=0, endFails 0=1";
        for (int i = 0; i < 3; i++) {
            CHECK.due("run(0)", 4, x.run(0));
            CHECK.dueText("EVENTS", due, Told.events(x));
            CHECK.dueText("OUTCOMES", "0.0:1 -1 0 1, 0.1:5 -1 0 1, 1.0:4 1 0 1, 2.0:4 2 0 1", Told.outcomes(x, 4));
            CHECK.dueText("counted(0, ..)", "2 2 2", Told.counted(x, 0));
        }
    }

    private static void byTestsThenByCases() {
        CHECK.sentence(8, "ORDER 0: by TESTS, then by CASES");
        FixtureOrder x = new FixtureOrder();
        x.fixture(SESSION, 2, false, false);
        for (int test = 0; test < 3; test++) {
            x.test(7 - test);
        }
        x.uses(0, 0);
        x.uses(1, 0);
        x.run(1);
        x.run(0);
        CHECK.dueText("CASES", "0.0 0.1 1.0 1.1 2.0", taken(x, 5));
    }

    private static void byFewestUnmade() {
        CHECK.sentence(8, "ORDER 1: of those that are left, each time the one with the fewest that aren't MADE");
        FixtureOrder x = new FixtureOrder();
        x.fixture(SESSION, 2, false, false);
        for (int test = 0; test < 3; test++) {
            x.test(0);
        }
        x.uses(0, 0);
        x.uses(1, 0);
        CHECK.due("run(1)", 5, x.run(1));
        CHECK.dueText("CASES", "2.0 0.0 1.0 0.1 1.1", taken(x, 5));
        CHECK.dueText("it switches little",
                "steps 0.0, make 0=0, steps 1.0, steps 2.0, end 0=0, make 0=1, steps 3.0, steps 4.0, end 0=1",
                Told.events(x));
    }

    private static void byFewestUnmadeOfTheFirst() {
        CHECK.sentence(8, "ORDER 1: of these the first by 0");
        FixtureOrder x = new FixtureOrder();
        x.fixture(SESSION, 1, false, false);
        x.fixture(SESSION, 1, false, false);
        x.fixture(SESSION, 1, false, false);
        int[][] used = {{0, 1, 2}, {1}, {0}, {1}, {2}, {0}};
        for (int test = 0; test < used.length; test++) {
            x.test(0);
            for (int fixture : used[test]) {
                x.uses(test, fixture);
            }
        }
        x.run(1);
        CHECK.dueText("those that are left keep their order", "1.0 3.0 2.0 5.0 0.0 4.0", taken(x, 6));
    }

    private static void byFewestUnmadeOfFile() {
        CHECK.sentence(8, "ORDER 1: of FILE scope, for its FILE");
        FixtureOrder x = new FixtureOrder();
        x.fixture(FILE, 1, false, false);
        x.fixture(SESSION, 1, false, false);
        int[] files = {0, 1, 0, 1};
        for (int test = 0; test < files.length; test++) {
            x.test(files[test]);
            x.uses(test, 0);
        }
        x.run(1);
        CHECK.dueText("the same FILE goes on", "0.0 2.0 1.0 3.0", taken(x, 4));

        FixtureOrder y = new FixtureOrder();
        y.fixture(SESSION, 1, false, false);
        for (int test = 0; test < files.length; test++) {
            y.test(files[test]);
            y.uses(test, 0);
        }
        y.run(1);
        CHECK.dueText("of SCOPE session the FILE does not count", "0.0 1.0 2.0 3.0", taken(y, 4));
    }

    private static void byFewestUnmadeOfCaseScope() {
        CHECK.sentence(8, "ORDER 1: aren't MADE: SCOPE case, which has ENDED");
        FixtureOrder x = new FixtureOrder();
        x.fixture(CASE, 1, false, false);
        x.fixture(CASE, 1, false, false);
        int[][] used = {{0, 1}, {0}, {1}, {0, 1}, {}};
        for (int test = 0; test < used.length; test++) {
            x.test(0);
            for (int fixture : used[test]) {
                x.uses(test, fixture);
            }
        }
        x.run(1);
        CHECK.dueText("CASES", "4.0 1.0 2.0 0.0 3.0", taken(x, 5));
    }

    private static void byFewestUnmadeWithItsValue() {
        CHECK.sentence(8, "ORDER 1: MADE with the VALUE that it gives");
        FixtureOrder x = new FixtureOrder();
        x.fixture(SESSION, 3, false, false);
        x.fixture(SESSION, 2, false, false);
        x.test(0);
        x.uses(0, 0);
        x.uses(0, 1);
        x.test(0);
        x.uses(1, 1);
        x.run(1);
        CHECK.dueText("CASES", "1.0 0.0 0.1 1.1 0.3 0.2 0.4 0.5", taken(x, 8));
    }

    private static void byFewestUnmadeOfWhatFailed() {
        CHECK.sentence(8, "ORDER 1: aren't MADE: what is REMEMBERED to have failed");
        FixtureOrder x = new FixtureOrder();
        x.fixture(SESSION, 1, true, false);
        x.fixture(SESSION, 1, false, false);
        int[][] used = {{0}, {1, 0}, {1}, {1, 0}, {1}};
        for (int test = 0; test < used.length; test++) {
            x.test(0);
            for (int fixture : used[test]) {
                x.uses(test, fixture);
            }
        }
        x.run(1);
        CHECK.dueText("CASES", "0.0 2.0 4.0 1.0 3.0", taken(x, 5));
    }

    private static void byFewestUnmadeOfForty() {
        CHECK.sentence(8, "ORDER 1: of those that are left: 40 of them");
        FixtureOrder x = withEights(5);
        x.run(1);
        StringBuilder due = new StringBuilder();
        int[] ways = {0, 1, 2, 5, 3, 4, 7, 6};
        for (int way : ways) {
            for (int test = 0; test < 5; test++) {
                due.append(due.length() == 0 ? "" : " ").append(test).append('.').append(way);
            }
        }
        CHECK.dueText("CASES", due.toString(), taken(x, 40));
    }

    private static void the512thCall() {
        CHECK.sentence(8, "an object is used for at most 512 calls");
        FixtureOrder x = withEights(5);
        int calls = 2 + 3 * 5;
        while (calls < 511) {
            CHECK.due("call " + calls + ": run", 40, x.run(calls % 2));
            calls++;
        }
        int last = (calls - 1) % 2;
        FixtureOrder y = withEights(5);
        y.run(last);
        CHECK.due("the 512th call: events()", y.events(), x.events());
    }
}
