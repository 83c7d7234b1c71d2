/** Promises 8 to 12: run, events, event, outcome, counted. */
public final class RunningTest {
    private static final int LEAST = Integer.MIN_VALUE;
    private static final int MOST = Integer.MAX_VALUE;
    private static final Check CHECK = new Check();

    public static void main(String[] args) {
        refusedRuns();
        fortyCases();
        scopesInReverse();
        otherValues();
        dependentsEndToo();
        rememberedFailures();
        rememberedInOneFile();
        failedCaseScopeIsNotRemembered();
        unmadeEndsWhatWasMade();
        triedAgain();
        endingsThatFail();
        endingsThatFailBefore();
        endingsBehindTheLast();
        orderOne();
        orderOneOfFiles();
        wrongQuestions();
        countedOfThatRun();
        manyEvents();
        CHECK.finish();
    }

    private static void refusedRuns() {
        FixtureOrder x = new FixtureOrder();
        x.fixture(2, 1, false, false);
        x.test(0);
        x.uses(0, 0);
        int[] wrong = {-1, 2, LEAST, MOST};
        for (int order : wrong) {
            CHECK.due("8: run(" + order + ")", -1, x.run(order));
        }
        CHECK.due("9: no run yet", 0, x.events());
        CHECK.due("12: no run yet", -1, x.counted(0, 0));
        CHECK.due("11: no run yet", -1, x.outcome(0, 2));
        CHECK.due("8: run(0)", 1, x.run(0));
        CHECK.due("8: run(2) after it", -1, x.run(2));
        CHECK.dueText("9: of the latest that wasn't NONE", "make 0=0, steps 0.0, end 0=0", Told.events(x));
    }

    private static void fortyCases() {
        FixtureOrder x = new FixtureOrder();
        x.fixture(2, 3, false, false);
        x.fixture(2, 3, false, false);
        for (int test = 0; test < 5; test++) {
            x.test(0);
            x.uses(test, 0);
            x.uses(test, 1);
        }
        CHECK.due("8: 40 CASES by 0", 40, x.run(0));
        CHECK.due("11: the 40th is of TEST 4", 4, x.outcome(39, 0));
        CHECK.due("11: its last CASE", 7, x.outcome(39, 1));
        CHECK.due("8: 40 CASES by 1", 40, x.run(1));
        int events = x.events();
        x.test(0);
        CHECK.due("8: 41 CASES by 0", -1, x.run(0));
        CHECK.due("8: 41 CASES by 1", -1, x.run(1));
        CHECK.due("9: nothing is run then", events, x.events());
        CHECK.due("11: nothing is run then", 1, x.outcome(39, 2));
        CHECK.due("11: no 41st", -1, x.outcome(40, 2));
    }

    private static void scopesInReverse() {
        FixtureOrder x = new FixtureOrder();
        x.fixture(2, 1, false, false);
        x.fixture(1, 1, false, false);
        x.fixture(0, 1, false, false);
        int[] files = {3, 3, 5, 3};
        for (int test = 0; test < files.length; test++) {
            x.test(files[test]);
            x.uses(test, 0);
            x.uses(test, 1);
            x.uses(test, 2);
        }
        CHECK.due("8: run(0)", 4, x.run(0));
        CHECK.dueText("once for each scope, ended in reverse",
                "make 0=0, make 1=0, make 2=0, steps 0.0, end 2=0, "
                + "make 2=0, steps 1.0, end 2=0, "
                + "end 1=0, make 1=0, make 2=0, steps 2.0, end 2=0, "
                + "end 1=0, make 1=0, make 2=0, steps 3.0, end 2=0, end 1=0, end 0=0", Told.events(x));
        CHECK.dueText("12: session", "1 1 0", Told.counted(x, 0));
        CHECK.dueText("12: file", "3 3 0", Told.counted(x, 1));
        CHECK.dueText("12: case", "4 4 0", Told.counted(x, 2));

        FixtureOrder y = new FixtureOrder();
        y.fixture(1, 1, false, false);
        y.test(0);
        y.uses(0, 0);
        y.test(1);
        y.run(0);
        CHECK.dueText("(1) ends those of another FILE even outside the CLOSURE",
                "make 0=0, steps 0.0, end 0=0, steps 1.0", Told.events(y));
    }

    private static void otherValues() {
        FixtureOrder x = new FixtureOrder();
        x.fixture(2, 2, false, false);
        x.fixture(2, 1, false, false);
        x.test(0);
        x.uses(0, 0);
        x.test(0);
        x.uses(1, 1);
        x.test(0);
        x.uses(2, 0);
        x.run(0);
        CHECK.dueText("another VALUE ends it, if it is of the CLOSURE",
                "make 0=0, steps 0.0, end 0=0, make 0=1, steps 1.0, make 1=0, steps 2.0, "
                + "end 0=1, make 0=0, steps 3.0, end 0=0, make 0=1, steps 4.0, end 0=1, end 1=0",
                Told.events(x));
    }

    private static void dependentsEndToo() {
        FixtureOrder x = new FixtureOrder();
        x.fixture(2, 2, false, false);
        x.fixture(2, 1, false, false);
        x.fixture(1, 1, false, false);
        x.fixture(2, 1, false, false);
        x.needs(2, 1);
        x.needs(1, 0);
        x.test(0);
        x.uses(0, 3);
        x.uses(0, 2);
        x.test(0);
        x.uses(1, 0);
        x.run(0);
        CHECK.dueText("those that NEED one that ENDS, by way of others, end too; the rest stays",
                "make 3=0, make 0=0, make 1=0, make 2=0, steps 0.0, "
                + "end 2=0, end 1=0, end 0=0, make 0=1, make 1=0, make 2=0, steps 1.0, "
                + "end 2=0, end 1=0, end 0=1, make 0=0, steps 2.0, end 0=0, make 0=1, steps 3.0, "
                + "end 0=1, end 3=0", Told.events(x));
    }

    private static void rememberedFailures() {
        FixtureOrder x = new FixtureOrder();
        x.fixture(2, 2, true, true);
        x.fixture(2, 1, false, false);
        for (int test = 0; test < 2; test++) {
            x.test(test);
            x.uses(test, 1);
            x.uses(test, 0);
            x.fails(test, 1, 2);
        }
        CHECK.due("8: run(0)", 4, x.run(0));
        CHECK.dueText("each VALUE is REMEMBERED over FILES",
                "make 1=0, makeFails 0=0, makeFails 0=1, end 1=0", Told.events(x));
        CHECK.dueText("UNMADE is not tried again",
                "0.0:4 0 0 1, 0.1:4 0 0 1, 1.0:4 0 0 1, 1.1:4 0 0 1", Told.outcomes(x, 4));
        CHECK.dueText("12: what fails isn't MADE", "0 0 0", Told.counted(x, 0));
        x.run(0);
        CHECK.due("each run begins anew", 4, x.events());
    }

    private static void rememberedInOneFile() {
        FixtureOrder x = new FixtureOrder();
        x.fixture(1, 1, true, false);
        int[] files = {2, 2, 6, 2};
        for (int test = 0; test < files.length; test++) {
            x.test(files[test]);
            if (files[test] == 2) {
                x.uses(test, 0);
            }
        }
        x.run(0);
        CHECK.dueText("forgotten by a CASE of another FILE, even one that doesn't want it",
                "makeFails 0=0, steps 2.0, makeFails 0=0", Told.events(x));
        CHECK.dueText("REMEMBERED is UNMADE",
                "0.0:4 0 0 1, 1.0:4 0 0 1, 2.0:1 -1 0 1, 3.0:4 0 0 1", Told.outcomes(x, 4));
    }

    private static void failedCaseScopeIsNotRemembered() {
        FixtureOrder x = new FixtureOrder();
        x.fixture(0, 1, true, false);
        x.test(0);
        x.uses(0, 0);
        x.test(0);
        x.uses(1, 0);
        x.run(0);
        CHECK.dueText("SCOPE case fails each time", "makeFails 0=0, makeFails 0=0", Told.events(x));
    }

    private static void unmadeEndsWhatWasMade() {
        FixtureOrder x = new FixtureOrder();
        x.fixture(0, 1, false, true);
        x.fixture(2, 1, false, false);
        x.fixture(2, 1, true, false);
        x.fixture(0, 1, false, false);
        for (int test = 0; test < 2; test++) {
            x.test(0);
            x.uses(test, 0);
            x.uses(test, 1);
            x.uses(test, 2);
            x.uses(test, 3);
        }
        x.run(0);
        CHECK.dueText("those of SCOPE case END; those before a REMEMBERED one are MADE",
                "make 0=0, make 1=0, makeFails 2=0, endFails 0=0, make 0=0, endFails 0=0, end 1=0",
                Told.events(x));
        CHECK.dueText("ENDINGS that fail are SUPPRESSED", "0.0:4 2 1 1, 1.0:4 2 1 1", Told.outcomes(x, 2));
        CHECK.dueText("12: LEAKED", "2 2 2", Told.counted(x, 0));
    }

    private static void triedAgain() {
        FixtureOrder x = new FixtureOrder();
        x.fixture(2, 1, false, false);
        x.fixture(0, 1, false, false);
        x.test(0);
        x.test(0);
        x.uses(1, 0);
        x.uses(1, 1);
        x.fails(1, 1, 2);
        x.run(0);
        CHECK.dueText("SCOPE case is MADE for each TRY, the rest once",
                "steps 0.0, make 0=0, make 1=0, steps 1.0, end 1=0, make 1=0, steps 1.1, end 1=0, end 0=0",
                Told.events(x));
        CHECK.dueText("11: tries", "0.0:1 -1 0 1, 1.0:1 -1 0 2", Told.outcomes(x, 2));
    }

    private static void endingsThatFail() {
        FixtureOrder x = new FixtureOrder();
        x.fixture(0, 1, false, true);
        x.fixture(0, 1, false, true);
        x.test(0);
        x.uses(0, 0);
        x.uses(0, 1);
        x.run(0);
        CHECK.dueText("PASSED but for ENDINGS", "0.0:5 -1 1 1", Told.outcomes(x, 1));
        x.fails(0, 2, 2);
        x.run(0);
        CHECK.dueText("of any TRY, but the first", "0.0:5 -1 5 3", Told.outcomes(x, 1));
        x.fails(0, 2, 1);
        x.run(0);
        CHECK.dueText("FAILED stays FAILED", "0.0:2 -1 4 2", Told.outcomes(x, 1));
        x.takes(0, 2, 1);
        x.run(0);
        CHECK.dueText("CUT stays CUT", "0.0:3 -1 4 2", Told.outcomes(x, 1));
        CHECK.dueText("12: LEAKED", "2 2 2", Told.counted(x, 1));
    }

    private static void endingsThatFailBefore() {
        FixtureOrder x = new FixtureOrder();
        x.fixture(1, 1, false, true);
        x.fixture(1, 1, false, true);
        x.test(0);
        x.uses(0, 0);
        x.uses(0, 1);
        x.test(1);
        x.fails(1, 1, 1);
        x.run(0);
        CHECK.dueText("an ENDING in (1) counts for the CASE that comes",
                "0.0:1 -1 0 1, 1.0:5 -1 1 2", Told.outcomes(x, 2));
        x.fails(1, 2, 1);
        x.run(0);
        CHECK.dueText("SUPPRESSED if it FAILED", "0.0:1 -1 0 1, 1.0:2 -1 2 2", Told.outcomes(x, 2));
    }

    private static void endingsBehindTheLast() {
        FixtureOrder x = new FixtureOrder();
        x.fixture(2, 1, false, true);
        x.test(0);
        x.uses(0, 0);
        x.run(0);
        CHECK.dueText("9: ENDS behind the last", "make 0=0, steps 0.0, endFails 0=0", Told.events(x));
        CHECK.dueText("11: which is no CASE's", "0.0:1 -1 0 1", Told.outcomes(x, 1));
        CHECK.dueText("12: LEAKED all the same", "1 1 1", Told.counted(x, 0));
    }

    private static void orderOne() {
        FixtureOrder x = new FixtureOrder();
        x.fixture(2, 2, false, false);
        x.test(0);
        x.uses(0, 0);
        x.test(0);
        x.uses(1, 0);
        x.test(0);
        CHECK.due("8: run(1)", 5, x.run(1));
        CHECK.dueText("the fewest unmade, then the first by 0",
                "2.0:1 -1 0 1, 0.0:1 -1 0 1, 1.0:1 -1 0 1, 0.1:1 -1 0 1, 1.1:1 -1 0 1", Told.outcomes(x, 5));
        CHECK.dueText("it switches little",
                "steps 0.0, make 0=0, steps 1.0, steps 2.0, end 0=0, make 0=1, steps 3.0, steps 4.0, end 0=1",
                Told.events(x));
        x.run(0);
        CHECK.dueText("by 0 again",
                "0.0:1 -1 0 1, 0.1:1 -1 0 1, 1.0:1 -1 0 1, 1.1:1 -1 0 1, 2.0:1 -1 0 1", Told.outcomes(x, 5));
    }

    private static void orderOneOfFiles() {
        FixtureOrder x = new FixtureOrder();
        x.fixture(1, 1, false, false);
        x.fixture(0, 1, false, false);
        int[] files = {0, 1, 0, 1};
        for (int test = 0; test < files.length; test++) {
            x.test(files[test]);
            x.uses(test, 0);
        }
        x.uses(2, 1);
        x.run(1);
        CHECK.dueText("of SCOPE file it must be MADE for the FILE; of SCOPE case it never is",
                "0.0:1 -1 0 1, 1.0:1 -1 0 1, 3.0:1 -1 0 1, 2.0:1 -1 0 1", Told.outcomes(x, 4));
    }

    private static void wrongQuestions() {
        FixtureOrder x = new FixtureOrder();
        x.fixture(2, 1, false, false);
        x.test(4);
        x.uses(0, 0);
        x.run(0);
        CHECK.due("9: events()", 3, x.events());
        int[] wrongPlaces = {-1, 3, LEAST, MOST};
        for (int place : wrongPlaces) {
            CHECK.due("10: event(" + place + ", 0)", -1, x.event(place, 0));
            CHECK.due("11: outcome(" + place + ", 0)", -1, x.outcome(place, 0));
            CHECK.due("12: counted(" + place + ", 0)", -1, x.counted(place, 0));
        }
        CHECK.due("11: outcome(1, 0)", -1, x.outcome(1, 0));
        CHECK.due("12: counted(1, 0)", -1, x.counted(1, 0));
        int[] wrongWhats = {-1, 6, LEAST, MOST};
        for (int what : wrongWhats) {
            CHECK.due("10: event(0, " + what + ")", -1, x.event(0, what));
            CHECK.due("11: outcome(0, " + what + ")", -1, x.outcome(0, what));
            CHECK.due("12: counted(0, " + what + ")", -1, x.counted(0, what));
        }
        CHECK.due("10: event(0, 3)", -1, x.event(0, 3));
        CHECK.due("12: counted(0, 3)", -1, x.counted(0, 3));
    }

    private static void countedOfThatRun() {
        FixtureOrder x = new FixtureOrder();
        x.fixture(2, 1, false, false);
        x.fixture(0, 1, false, false);
        x.test(0);
        x.uses(0, 0);
        x.run(0);
        x.run(0);
        CHECK.dueText("12: of the latest run alone", "1 1 0", Told.counted(x, 0));
        CHECK.dueText("12: one that no TEST USES", "0 0 0", Told.counted(x, 1));
        x.fixture(0, 1, false, false);
        CHECK.due("12: one that has come since", -1, x.counted(2, 0));
        CHECK.due("8: a refused run", -1, x.run(9));
        CHECK.due("12: has come since still", -1, x.counted(2, 0));
        x.run(1);
        CHECK.due("12: has come before", 0, x.counted(2, 0));
    }

    private static void manyEvents() {
        FixtureOrder x = new FixtureOrder();
        for (int i = 0; i < 12; i++) {
            x.fixture(0, i >= 9 ? 2 : 1, false, true);
        }
        for (int i = 0; i < 11; i++) {
            x.needs(i, i + 1);
        }
        for (int test = 0; test < 5; test++) {
            x.test(test);
            x.uses(test, 0);
            x.fails(test, 2, 2);
        }
        CHECK.due("8: the most CASES", 40, x.run(1));
        CHECK.due("9: the most EVENTS", 40 * 3 * 25, x.events());
        CHECK.due("10: the last one", 3, x.event(2999, 0));
        CHECK.due("10: its FIXTURE", 11, x.event(2999, 1));
        CHECK.due("10: the last STEPS' place", 39, x.event(2987, 1));
        CHECK.due("10: the last STEPS' TRY", 2, x.event(2987, 2));
        CHECK.due("11: SUPPRESSED", 35, x.outcome(39, 4));
        CHECK.due("12: LEAKED", 120, x.counted(0, 2));
    }
}
