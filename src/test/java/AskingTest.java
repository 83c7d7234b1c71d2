/** Promises 9 to 12: events, event, outcome, counted. A test for each sentence. */
public final class AskingTest {
    private static final int LEAST = Integer.MIN_VALUE;
    private static final int MOST = Integer.MAX_VALUE;
    private static final int NONE = FixtureOrder.NONE;
    private static final int CASE = 0;
    private static final int SESSION = 2;
    private static final int[] EXTREMES = {-1, LEAST, MOST};
    private static final Check CHECK = new Check();

    public static void main(String[] args) {
        eventsBeforeAnyRun();
        eventsOfTheLatest();
        eventsOfAnEmptyRun();
        eventsAtTheMost();
        eventWhat();
        eventFixtureOrPlace();
        eventValueOrTry();
        eventNoneSuch();
        eventAnotherWhat();
        eventOfALongerRunBefore();
        outcomeTestAndNumber();
        outcomeUnmade();
        outcomeSuppressed();
        outcomeTries();
        outcomeNoneSuch();
        outcomeAnotherWhat();
        countedMadeEndedLeaked();
        countedOfTheLatestAlone();
        countedNoneSuch();
        countedOneThatHasComeSince();
        countedAnotherWhat();
        countedAtTheMost();
        CHECK.finish();
    }

    /** One CASE, of a FIXTURE of SCOPE session: it is MADE, the STEPS are taken, it ENDS. */
    private static FixtureOrder ranOne() {
        FixtureOrder x = new FixtureOrder();
        x.fixture(SESSION, 1, false, false);
        x.test(4);
        x.uses(0, 0);
        x.run(0);
        return x;
    }

    /** 40 CASES that each MAKE and END 12 FIXTURES in each of three TRIES. */
    private static FixtureOrder ranTheMost() {
        FixtureOrder x = new FixtureOrder();
        for (int i = 0; i < 12; i++) {
            x.fixture(CASE, i >= 9 ? 2 : 1, false, true);
        }
        for (int i = 0; i < 11; i++) {
            x.needs(i, i + 1);
        }
        for (int test = 0; test < 5; test++) {
            x.test(test);
            x.uses(test, 0);
            x.fails(test, 2, 2);
        }
        x.run(1);
        return x;
    }

    // Promise 9

    private static void eventsBeforeAnyRun() {
        CHECK.sentence(9, "the latest run that wasn't NONE: there is none yet");
        FixtureOrder x = new FixtureOrder();
        x.test(0);
        CHECK.due("events()", 0, x.events());
        x.run(2);
        CHECK.due("events() behind run(2)", 0, x.events());
    }

    private static void eventsOfTheLatest() {
        CHECK.sentence(9, "the latest run that wasn't NONE");
        FixtureOrder x = ranOne();
        CHECK.due("events()", 3, x.events());
        x.test(4);
        CHECK.due("events() behind test(4)", 3, x.events());
        x.run(-1);
        CHECK.due("events() behind run(-1)", 3, x.events());
        x.run(1);
        CHECK.due("events() behind run(1)", 4, x.events());
    }

    private static void eventsOfAnEmptyRun() {
        CHECK.sentence(9, "how many EVENTS: of no CASES");
        FixtureOrder x = new FixtureOrder();
        x.run(1);
        CHECK.due("events()", 0, x.events());
        CHECK.due("event(0, 0)", NONE, x.event(0, 0));
    }

    private static void eventsAtTheMost() {
        CHECK.sentence(9, "how many EVENTS: the most that can be");
        FixtureOrder x = ranTheMost();
        CHECK.due("events()", 40 * 3 * 25, x.events());
        CHECK.due("event(2999, 0)", 3, x.event(2999, 0));
        CHECK.due("event(3000, 0)", NONE, x.event(3000, 0));
    }

    // Promise 10

    private static void eventWhat() {
        CHECK.sentence(10, "0 what");
        FixtureOrder x = new FixtureOrder();
        x.fixture(CASE, 1, false, false);
        x.fixture(CASE, 1, false, true);
        x.fixture(CASE, 1, true, false);
        x.test(0);
        x.uses(0, 0);
        x.uses(0, 1);
        x.test(0);
        x.uses(1, 2);
        x.run(0);
        int[] due = {0, 0, 4, 3, 2, 1};
        CHECK.due("events()", due.length, x.events());
        for (int i = 0; i < due.length; i++) {
            CHECK.due("event(" + i + ", 0)", due[i], x.event(i, 0));
        }
    }

    private static void eventFixtureOrPlace() {
        CHECK.sentence(10, "1 the FIXTURE, or of 4 the place of the CASE among those run (from 0)");
        FixtureOrder x = ranTheMost();
        CHECK.due("the first MADE one", 11, x.event(0, 1));
        CHECK.due("the last ENDED one", 11, x.event(2999, 1));
        CHECK.due("the first STEPS' place", 0, x.event(12, 1));
        CHECK.due("the last STEPS' place", 39, x.event(2987, 1));
        FixtureOrder y = new FixtureOrder();
        y.fixture(CASE, 1, false, false);
        y.test(0);
        y.uses(0, 0);
        y.test(0);
        y.run(1);
        CHECK.due("the place is not the TEST", 0, y.event(0, 1));
        CHECK.due("which is another one", 1, y.outcome(0, 0));
    }

    private static void eventValueOrTry() {
        CHECK.sentence(10, "2 the VALUE, or of 4 the TRY (from 0)");
        FixtureOrder x = new FixtureOrder();
        x.fixture(CASE, 3, false, true);
        x.fixture(CASE, 3, true, false);
        x.test(0);
        x.uses(0, 0);
        x.fails(0, 2, 2);
        x.test(0);
        x.uses(1, 1);
        x.run(0);
        StringBuilder due = new StringBuilder();
        for (int value = 0; value < 3; value++) {
            for (int attempt = 0; attempt < 3; attempt++) {
                due.append("make 0=" + value + ", steps " + value + "." + attempt + ", endFails 0=" + value + ", ");
            }
        }
        due.append("makeFails 1=0, makeFails 1=1, makeFails 1=2");
        CHECK.dueText("EVENTS", due.toString(), Told.events(x));
    }

    private static void eventNoneSuch() {
        CHECK.sentence(10, "NONE if there is none such");
        FixtureOrder x = ranOne();
        for (int what = 0; what <= 2; what++) {
            for (int i : EXTREMES) {
                CHECK.due("event(" + i + ", " + what + ")", NONE, x.event(i, what));
            }
            CHECK.due("event(3, " + what + ")", NONE, x.event(3, what));
            CHECK.due("event(0, " + what + ") before any run", NONE, new FixtureOrder().event(0, what));
        }
        CHECK.due("event(2, 0)", 2, x.event(2, 0));
    }

    private static void eventAnotherWhat() {
        CHECK.sentence(10, "NONE for another what");
        FixtureOrder x = ranOne();
        for (int i = 0; i <= 2; i++) {
            for (int what : EXTREMES) {
                CHECK.due("event(" + i + ", " + what + ")", NONE, x.event(i, what));
            }
            CHECK.due("event(" + i + ", 3)", NONE, x.event(i, 3));
            CHECK.due("event(" + i + ", 4)", NONE, x.event(i, 4));
        }
    }

    private static void eventOfALongerRunBefore() {
        CHECK.sentence(10, "NONE if there is none such: but in an earlier run");
        FixtureOrder x = ranTheMost();
        for (int test = 0; test < 5; test++) {
            x.fails(test, 0, 0);
        }
        x.run(0);
        CHECK.due("events()", 40 * 25, x.events());
        CHECK.due("event(999, 0)", 3, x.event(999, 0));
        CHECK.due("event(1000, 0)", NONE, x.event(1000, 0));
        CHECK.due("event(2999, 1)", NONE, x.event(2999, 1));
    }

    // Promise 11

    private static void outcomeTestAndNumber() {
        CHECK.sentence(11, "by its place: 0 its TEST, 1 its number among the TEST's (from 0)");
        FixtureOrder x = ranTheMost();
        x.run(0);
        for (int place = 0; place < 40; place++) {
            CHECK.due("outcome(" + place + ", 0)", place / 8, x.outcome(place, 0));
            CHECK.due("outcome(" + place + ", 1)", place % 8, x.outcome(place, 1));
        }
    }

    private static void outcomeUnmade() {
        CHECK.sentence(11, "3 the FIXTURE that was UNMADE (else NONE)");
        FixtureOrder x = new FixtureOrder();
        x.fixture(CASE, 1, true, false);
        x.test(0);
        x.uses(0, 0);
        x.test(0);
        x.test(0);
        x.takes(2, 1, 0);
        x.run(0);
        CHECK.dueText("by 0", "0.0:4 0 0 1, 1.0:1 -1 0 1, 2.0:3 -1 0 1", Told.outcomes(x, 3));
        x.run(1);
        CHECK.dueText("by 1", "1.0:1 -1 0 1, 2.0:3 -1 0 1, 0.0:4 0 0 1", Told.outcomes(x, 3));
    }

    private static void outcomeSuppressed() {
        CHECK.sentence(11, "4 how many are SUPPRESSED");
        for (int count = 0; count <= 3; count++) {
            FixtureOrder x = new FixtureOrder();
            x.test(0);
            for (int i = 0; i < count; i++) {
                x.fixture(CASE, 1, false, true);
                x.uses(0, i);
            }
            x.run(0);
            String due = count == 0 ? "0.0:1 -1 0 1" : "0.0:5 -1 " + (count - 1) + " 1";
            CHECK.dueText("PASSED with " + count, due, Told.outcomes(x, 1));
            x.fails(0, 2, 1);
            x.run(0);
            CHECK.dueText("FAILED with " + count, "0.0:2 -1 " + 2 * count + " 2", Told.outcomes(x, 1));
        }
        CHECK.due("the most that can be", 35, ranTheMost().outcome(39, 4));
    }

    private static void outcomeTries() {
        CHECK.sentence(11, "5 how many TRIES");
        FixtureOrder x = new FixtureOrder();
        x.fixture(CASE, 1, true, false);
        int[] due = {1, 2, 3, 3, 1};
        for (int test = 0; test < due.length; test++) {
            x.test(0);
        }
        x.fails(0, 0, 2);
        x.fails(1, 1, 2);
        x.fails(2, 2, 2);
        x.takes(3, 1, 0);
        x.fails(3, 0, 2);
        x.uses(4, 0);
        x.fails(4, 2, 2);
        x.run(0);
        for (int test = 0; test < due.length; test++) {
            CHECK.due("outcome(" + test + ", 5)", due[test], x.outcome(test, 5));
        }
    }

    private static void outcomeNoneSuch() {
        CHECK.sentence(11, "NONE if there is none such");
        FixtureOrder x = ranOne();
        for (int what = 0; what <= 5; what++) {
            for (int i : EXTREMES) {
                CHECK.due("outcome(" + i + ", " + what + ")", NONE, x.outcome(i, what));
            }
            CHECK.due("outcome(1, " + what + ")", NONE, x.outcome(1, what));
            CHECK.due("outcome(39, " + what + ")", NONE, x.outcome(39, what));
            CHECK.due("outcome(40, " + what + ")", NONE, x.outcome(40, what));
            CHECK.due("outcome(0, " + what + ") before any run", NONE, new FixtureOrder().outcome(0, what));
        }
        x.test(0);
        CHECK.due("outcome(1, 0) of a TEST that has come since", NONE, x.outcome(1, 0));
        CHECK.due("outcome(0, 0)", 0, x.outcome(0, 0));
    }

    private static void outcomeAnotherWhat() {
        CHECK.sentence(11, "NONE for another what");
        FixtureOrder x = ranOne();
        for (int what : EXTREMES) {
            CHECK.due("outcome(0, " + what + ")", NONE, x.outcome(0, what));
        }
        CHECK.due("outcome(0, 6)", NONE, x.outcome(0, 6));
        CHECK.due("outcome(0, 7)", NONE, x.outcome(0, 7));
        CHECK.due("outcome(0, 5)", 1, x.outcome(0, 5));
    }

    // Promise 12

    private static void countedMadeEndedLeaked() {
        CHECK.sentence(12, "MADE (what 0), ENDED (1; failing or not), LEAKED (2)");
        FixtureOrder x = new FixtureOrder();
        x.fixture(CASE, 2, false, false);
        x.fixture(CASE, 2, false, true);
        x.fixture(CASE, 2, true, true);
        x.fixture(CASE, 2, false, true);
        for (int test = 0; test < 3; test++) {
            x.test(0);
            x.uses(test, test);
            x.fails(test, 1, 1);
        }
        x.run(0);
        CHECK.dueText("ENDINGS that don't fail", "4 4 0", Told.counted(x, 0));
        CHECK.dueText("ENDINGS that fail", "4 4 4", Told.counted(x, 1));
        CHECK.dueText("MAKING that fails", "0 0 0", Told.counted(x, 2));
        CHECK.dueText("one that no TEST USES", "0 0 0", Told.counted(x, 3));
    }

    private static void countedOfTheLatestAlone() {
        CHECK.sentence(12, "in that run");
        FixtureOrder x = ranOne();
        x.run(0);
        x.run(1);
        CHECK.dueText("behind three runs", "1 1 0", Told.counted(x, 0));
        x.run(2);
        CHECK.dueText("behind a refused one", "1 1 0", Told.counted(x, 0));
    }

    private static void countedNoneSuch() {
        CHECK.sentence(12, "NONE if there is none such");
        FixtureOrder x = ranOne();
        for (int what = 0; what <= 2; what++) {
            for (int fixture : EXTREMES) {
                CHECK.due("counted(" + fixture + ", " + what + ")", NONE, x.counted(fixture, what));
            }
            CHECK.due("counted(1, " + what + ")", NONE, x.counted(1, what));
            CHECK.due("counted(11, " + what + ")", NONE, x.counted(11, what));
            CHECK.due("counted(12, " + what + ")", NONE, x.counted(12, what));
        }
        FixtureOrder y = ranTheMost();
        CHECK.due("counted(12, 0) of 12", NONE, y.counted(12, 0));
    }

    private static void countedOneThatHasComeSince() {
        CHECK.sentence(12, "also one that has come since");
        FixtureOrder x = ranOne();
        x.fixture(CASE, 1, false, false);
        x.uses(0, 1);
        for (int what = 0; what <= 2; what++) {
            CHECK.due("counted(1, " + what + ")", NONE, x.counted(1, what));
        }
        x.run(2);
        CHECK.due("counted(1, 0) behind a refused run", NONE, x.counted(1, 0));
        CHECK.due("counted(0, 0)", 1, x.counted(0, 0));
        x.run(0);
        CHECK.dueText("behind the next run", "1 1 0", Told.counted(x, 1));
        FixtureOrder y = new FixtureOrder();
        y.fixture(CASE, 1, false, false);
        CHECK.due("counted(0, 0) before any run", NONE, y.counted(0, 0));
    }

    private static void countedAnotherWhat() {
        CHECK.sentence(12, "NONE for another what");
        FixtureOrder x = ranOne();
        for (int what : EXTREMES) {
            CHECK.due("counted(0, " + what + ")", NONE, x.counted(0, what));
        }
        CHECK.due("counted(0, 3)", NONE, x.counted(0, 3));
        CHECK.due("counted(0, 4)", NONE, x.counted(0, 4));
    }

    private static void countedAtTheMost() {
        CHECK.sentence(12, "how often: the most that can be");
        FixtureOrder x = ranTheMost();
        for (int fixture = 0; fixture < 12; fixture++) {
            CHECK.dueText("counted(" + fixture + ", ..)", "120 120 120", Told.counted(x, fixture));
        }
    }
}
