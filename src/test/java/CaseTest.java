/** How a CASE goes, as the Terms say it for promise 8. A test for each sentence. */
public final class CaseTest {
    private static final int CASE = 0;
    private static final int FILE = 1;
    private static final int SESSION = 2;
    private static final Check CHECK = new Check();

    public static void main(String[] args) {
        endsOfAnotherFile();
        endsOfAnotherFileOutsideTheClosure();
        staysInTheSameFile();
        endsWithAnotherValue();
        staysOutsideTheClosure();
        endsThoseThatNeedIt();
        endsThoseThatNeedItByTwelve();
        forgetsOfAnotherFile();
        forgetsEveryValueOfAnotherFile();
        remembersEachValue();
        remembersInTheSession();
        remembersNotOfCaseScope();
        rememberedByNeeds();
        makesThoseThatAreNotMade();
        unmadeEndsTheTry();
        unmadeAtTheFirst();
        unmadeIsNotTriedAgain();
        cutGoesBeforeFailed();
        passedIsNotTriedAgain();
        triedAgainMakesCaseScopeAnew();
        everyCaseHasItsOwnTries();
        endsCaseScopeOnEveryWay();
        endsBehindTheLast();
        endsInReverse();
        leakedIsMadeAgain();
        outcomeFive();
        outcomeFiveByAnEarlierFile();
        suppressedButTheFirst();
        suppressedOfFailedCutUnmade();
        CHECK.finish();
    }

    /** For each row a TEST: its FILE, then the FIXTURES that it USES. */
    private static void addTests(FixtureOrder x, int[][] rows) {
        for (int[] row : rows) {
            int test = x.test(row[0]);
            for (int i = 1; i < row.length; i++) {
                x.uses(test, row[i]);
            }
        }
    }

    private static void dueEvents(String what, FixtureOrder x, String due) {
        CHECK.dueText(what, due, Told.events(x));
    }

    // (1)

    private static void endsOfAnotherFile() {
        CHECK.sentence(8, "(1) of SCOPE file, if they were MADE for another FILE");
        FixtureOrder x = new FixtureOrder();
        x.fixture(SESSION, 1, false, false);
        x.fixture(FILE, 1, false, false);
        x.fixture(CASE, 1, false, false);
        addTests(x, new int[][] {{3, 0, 1, 2}, {3, 0, 1, 2}, {5, 0, 1, 2}, {3, 0, 1, 2}});
        x.run(0);
        dueEvents("once for each scope", x,
                "make 0=0, make 1=0, make 2=0, steps 0.0, end 2=0, "
                + "make 2=0, steps 1.0, end 2=0, "
                + "end 1=0, make 1=0, make 2=0, steps 2.0, end 2=0, "
                + "end 1=0, make 1=0, make 2=0, steps 3.0, end 2=0, end 1=0, end 0=0");
    }

    private static void endsOfAnotherFileOutsideTheClosure() {
        CHECK.sentence(8, "(1) of SCOPE file, if they were MADE for another FILE: of no CLOSURE");
        FixtureOrder x = new FixtureOrder();
        x.fixture(FILE, 1, false, false);
        addTests(x, new int[][] {{0, 0}, {7}, {0, 0}});
        x.run(0);
        dueEvents("FILES 0, 7, 0", x, "make 0=0, steps 0.0, end 0=0, steps 1.0, make 0=0, steps 2.0, end 0=0");
    }

    private static void staysInTheSameFile() {
        CHECK.sentence(8, "(1) those END that can't stay: of the same FILE they can");
        FixtureOrder x = new FixtureOrder();
        x.fixture(FILE, 1, false, false);
        addTests(x, new int[][] {{7, 0}, {7}, {7, 0}});
        x.run(0);
        dueEvents("FILE 7", x, "make 0=0, steps 0.0, steps 1.0, steps 2.0, end 0=0");
    }

    private static void endsWithAnotherValue() {
        CHECK.sentence(8, "(1) those of its CLOSURE that have another VALUE");
        FixtureOrder x = new FixtureOrder();
        x.fixture(SESSION, 2, false, false);
        addTests(x, new int[][] {{0, 0}, {1, 0}});
        x.run(0);
        dueEvents("two VALUES", x,
                "make 0=0, steps 0.0, end 0=0, make 0=1, steps 1.0, "
                + "end 0=1, make 0=0, steps 2.0, end 0=0, make 0=1, steps 3.0, end 0=1");
    }

    private static void staysOutsideTheClosure() {
        CHECK.sentence(8, "(1) those of its CLOSURE: no others");
        FixtureOrder x = new FixtureOrder();
        x.fixture(SESSION, 2, false, false);
        x.fixture(SESSION, 2, false, false);
        addTests(x, new int[][] {{0, 0}, {1, 1}, {2}});
        x.run(0);
        dueEvents("two of two VALUES", x,
                "make 0=0, steps 0.0, end 0=0, make 0=1, steps 1.0, "
                + "make 1=0, steps 2.0, end 1=0, make 1=1, steps 3.0, steps 4.0, end 1=1, end 0=1");
    }

    private static void endsThoseThatNeedIt() {
        CHECK.sentence(8, "(1) those that NEED one that ENDS so, by way of others too");
        FixtureOrder x = new FixtureOrder();
        x.fixture(SESSION, 2, false, false);
        x.fixture(SESSION, 1, false, false);
        x.fixture(FILE, 1, false, false);
        x.fixture(SESSION, 1, false, false);
        x.needs(2, 1);
        x.needs(1, 0);
        addTests(x, new int[][] {{0, 3, 2}, {0, 0}});
        x.run(0);
        dueEvents("the rest stays", x,
                "make 3=0, make 0=0, make 1=0, make 2=0, steps 0.0, "
                + "end 2=0, end 1=0, end 0=0, make 0=1, make 1=0, make 2=0, steps 1.0, "
                + "end 2=0, end 1=0, end 0=1, make 0=0, steps 2.0, end 0=0, make 0=1, steps 3.0, "
                + "end 0=1, end 3=0");
    }

    private static void endsThoseThatNeedItByTwelve() {
        CHECK.sentence(8, "(1) by way of others too: of all 12");
        FixtureOrder x = new FixtureOrder();
        for (int i = 0; i < 12; i++) {
            x.fixture(SESSION, i == 11 ? 2 : 1, false, false);
        }
        for (int i = 0; i < 11; i++) {
            x.needs(i, i + 1);
        }
        addTests(x, new int[][] {{0, 0}});
        x.run(0);
        CHECK.due("events()", 2 * 25, x.events());
        for (int i = 0; i < 12; i++) {
            CHECK.due("the FIXTURE that ENDS at " + i, i, x.event(13 + i, 1));
            CHECK.due("it ENDS", 2, x.event(13 + i, 0));
        }
    }

    private static void forgetsOfAnotherFile() {
        CHECK.sentence(8, "(1) what is REMEMBERED is forgotten: of SCOPE file for another FILE");
        FixtureOrder x = new FixtureOrder();
        x.fixture(FILE, 1, true, false);
        addTests(x, new int[][] {{2, 0}, {2, 0}, {6, 0}, {2, 0}, {2, 0}});
        x.run(0);
        dueEvents("FILES 2, 2, 6, 2, 2", x, "makeFails 0=0, makeFails 0=0, makeFails 0=0");

        FixtureOrder y = new FixtureOrder();
        y.fixture(FILE, 1, true, false);
        addTests(y, new int[][] {{2, 0}, {2}, {2, 0}, {6}, {2, 0}});
        y.run(0);
        dueEvents("also by a CASE that doesn't want it", y,
                "makeFails 0=0, steps 1.0, steps 3.0, makeFails 0=0");
    }

    private static void forgetsEveryValueOfAnotherFile() {
        CHECK.sentence(8, "(1) what is REMEMBERED is forgotten: with each VALUE");
        FixtureOrder x = new FixtureOrder();
        x.fixture(FILE, 3, true, false);
        addTests(x, new int[][] {{0, 0}, {0, 0}, {1, 0}});
        x.run(0);
        dueEvents("FILES 0, 0, 1", x,
                "makeFails 0=0, makeFails 0=1, makeFails 0=2, makeFails 0=0, makeFails 0=1, makeFails 0=2");
        CHECK.due("outcome(5, 2)", 4, x.outcome(5, 2));
        CHECK.due("outcome(5, 3)", 0, x.outcome(5, 3));
    }

    // (2)

    private static void remembersEachValue() {
        CHECK.sentence(8, "(2) REMEMBERED to have failed with this VALUE");
        FixtureOrder x = new FixtureOrder();
        x.fixture(SESSION, 2, true, false);
        x.fixture(SESSION, 1, false, false);
        addTests(x, new int[][] {{0, 1, 0}, {0, 1, 0}});
        x.run(0);
        dueEvents("each VALUE fails once", x, "make 1=0, makeFails 0=0, makeFails 0=1, end 1=0");
        CHECK.dueText("REMEMBERED ones are UNMADE too",
                "0.0:4 0 0 1, 0.1:4 0 0 1, 1.0:4 0 0 1, 1.1:4 0 0 1", Told.outcomes(x, 4));
    }

    private static void remembersInTheSession() {
        CHECK.sentence(8, "(2) One of SCOPE file or session that fails is REMEMBERED: session, over FILES");
        FixtureOrder x = new FixtureOrder();
        x.fixture(SESSION, 1, true, false);
        addTests(x, new int[][] {{0, 0}, {1, 0}, {7, 0}, {0, 0}});
        x.run(0);
        dueEvents("FILES 0, 1, 7, 0", x, "makeFails 0=0");
    }

    private static void remembersNotOfCaseScope() {
        CHECK.sentence(8, "(2) One of SCOPE file or session that fails is REMEMBERED: of SCOPE case not");
        FixtureOrder x = new FixtureOrder();
        x.fixture(CASE, 1, true, false);
        addTests(x, new int[][] {{0, 0}, {0, 0}});
        x.run(0);
        dueEvents("it fails each time", x, "makeFails 0=0, makeFails 0=0");
    }

    private static void rememberedByNeeds() {
        CHECK.sentence(8, "(2) REMEMBERED ones make no EVENTS");
        FixtureOrder x = new FixtureOrder();
        x.fixture(SESSION, 1, true, false);
        x.fixture(FILE, 1, true, false);
        x.needs(1, 0);
        addTests(x, new int[][] {{0, 1}, {1, 1}});
        x.run(0);
        dueEvents("the one that is needed fails", x, "makeFails 0=0");
        CHECK.dueText("it is the one that was UNMADE", "0.0:4 0 0 1, 1.0:4 0 0 1", Told.outcomes(x, 2));
    }

    private static void makesThoseThatAreNotMade() {
        CHECK.sentence(8, "(2) FIXTURES of its CLOSURE, in order, that aren't MADE, are MADE with their VALUES");
        FixtureOrder x = new FixtureOrder();
        x.fixture(SESSION, 1, false, false);
        x.fixture(SESSION, 3, false, false);
        addTests(x, new int[][] {{0, 0}, {0, 1, 0}});
        x.run(0);
        dueEvents("the first stays MADE", x,
                "make 0=0, steps 0.0, make 1=0, steps 1.0, end 1=0, make 1=1, steps 2.0, "
                + "end 1=1, make 1=2, steps 3.0, end 1=2, end 0=0");
    }

    private static void unmadeEndsTheTry() {
        CHECK.sentence(8, "(2) if one fails, or is REMEMBERED to have failed, the TRY ends: UNMADE");
        FixtureOrder x = new FixtureOrder();
        x.fixture(CASE, 1, false, false);
        x.fixture(SESSION, 1, false, false);
        x.fixture(SESSION, 1, true, false);
        x.fixture(CASE, 1, true, false);
        addTests(x, new int[][] {{0, 0, 1, 2, 3}, {0, 0, 1, 2, 3}});
        x.run(0);
        dueEvents("those before it are MADE, those behind it not", x,
                "make 0=0, make 1=0, makeFails 2=0, end 0=0, make 0=0, end 0=0, end 1=0");
        CHECK.dueText("UNMADE", "0.0:4 2 0 1, 1.0:4 2 0 1", Told.outcomes(x, 2));
    }

    private static void unmadeAtTheFirst() {
        CHECK.sentence(8, "(2) UNMADE: with nothing MADE before");
        FixtureOrder x = new FixtureOrder();
        x.fixture(CASE, 1, true, true);
        addTests(x, new int[][] {{0, 0}});
        x.run(0);
        dueEvents("nothing ENDS", x, "makeFails 0=0");
        CHECK.dueText("UNMADE", "0.0:4 0 0 1", Told.outcomes(x, 1));
    }

    private static void unmadeIsNotTriedAgain() {
        CHECK.sentence(8, "(4) If it was FAILED or CUT: UNMADE is not tried again");
        FixtureOrder x = new FixtureOrder();
        x.fixture(CASE, 1, true, false);
        addTests(x, new int[][] {{0, 0}});
        x.fails(0, 2, 2);
        x.takes(0, 1, 0);
        x.run(0);
        dueEvents("one TRY", x, "makeFails 0=0");
        CHECK.dueText("UNMADE", "0.0:4 0 0 1", Told.outcomes(x, 1));
    }

    private static void cutGoesBeforeFailed() {
        CHECK.sentence(8, "(2) CUT, if they are above LIMIT; else FAILED");
        FixtureOrder x = new FixtureOrder();
        x.test(0);
        x.fails(0, 2, 1);
        x.takes(0, 1, 0);
        x.run(0);
        CHECK.dueText("CUT in a TRY that would fail", "0.0:3 -1 0 2", Told.outcomes(x, 1));
        x.fails(0, 2, 2);
        x.run(0);
        CHECK.dueText("CUT in each TRY", "0.0:3 -1 0 3", Told.outcomes(x, 1));
        dueEvents("three TRIES", x, "steps 0.0, steps 0.1, steps 0.2");
        x.takes(0, 1, 1);
        x.run(0);
        CHECK.dueText("STEPS at the LIMIT", "0.0:1 -1 0 3", Told.outcomes(x, 1));
    }

    // (3) and (4)

    private static void passedIsNotTriedAgain() {
        CHECK.sentence(8, "(4) If it was FAILED or CUT: PASSED is not tried again");
        FixtureOrder x = new FixtureOrder();
        x.fixture(CASE, 1, false, true);
        addTests(x, new int[][] {{0}, {0, 0}});
        x.fails(0, 0, 2);
        x.fails(1, 0, 2);
        x.run(0);
        CHECK.dueText("also if its ENDING fails", "0.0:1 -1 0 1, 1.0:5 -1 0 1", Told.outcomes(x, 2));
    }

    private static void triedAgainMakesCaseScopeAnew() {
        CHECK.sentence(8, "(4) may be tried again, on with (2)");
        FixtureOrder x = new FixtureOrder();
        x.fixture(SESSION, 1, false, false);
        x.fixture(FILE, 1, false, false);
        x.fixture(CASE, 1, false, false);
        addTests(x, new int[][] {{0}, {0, 0, 1, 2}});
        x.fails(1, 1, 2);
        x.run(0);
        dueEvents("SCOPE case is MADE for each TRY, the rest once", x,
                "steps 0.0, make 0=0, make 1=0, make 2=0, steps 1.0, end 2=0, "
                + "make 2=0, steps 1.1, end 2=0, end 1=0, end 0=0");
        CHECK.dueText("TRIES", "0.0:1 -1 0 1, 1.0:1 -1 0 2", Told.outcomes(x, 2));
    }

    private static void everyCaseHasItsOwnTries() {
        CHECK.sentence(8, "FAILED, if it fails in this TRY: each CASE has its own");
        FixtureOrder x = new FixtureOrder();
        x.fixture(CASE, 2, false, false);
        addTests(x, new int[][] {{0, 0}});
        x.fails(0, 1, 1);
        x.run(0);
        CHECK.dueText("both CASES", "0.0:1 -1 0 2, 0.1:1 -1 0 2", Told.outcomes(x, 2));
        x.fails(0, 2, 1);
        x.run(0);
        CHECK.dueText("both CASES fail", "0.0:2 -1 0 2, 0.1:2 -1 0 2", Told.outcomes(x, 2));
    }

    private static void endsCaseScopeOnEveryWay() {
        CHECK.sentence(8, "(3) Those of SCOPE case END");
        FixtureOrder x = new FixtureOrder();
        x.fixture(CASE, 1, false, false);
        x.fixture(CASE, 1, true, false);
        addTests(x, new int[][] {{0, 0}, {0, 0}, {0, 0}, {0, 0, 1}});
        x.fails(1, 1, 0);
        x.takes(2, 1, 0);
        x.run(0);
        dueEvents("PASSED, FAILED, CUT, UNMADE", x,
                "make 0=0, steps 0.0, end 0=0, make 0=0, steps 1.0, end 0=0, "
                + "make 0=0, steps 2.0, end 0=0, make 0=0, makeFails 1=0, end 0=0");
        CHECK.dueText("OUTCOMES", "0.0:1 -1 0 1, 1.0:2 -1 0 1, 2.0:3 -1 0 1, 3.0:4 1 0 1", Told.outcomes(x, 4));
    }

    // ENDING

    private static void endsBehindTheLast() {
        CHECK.sentence(8, "Behind the last CASE all that are MADE END");
        FixtureOrder x = new FixtureOrder();
        x.fixture(SESSION, 1, false, true);
        x.fixture(FILE, 1, false, false);
        addTests(x, new int[][] {{0, 0, 1}});
        x.run(0);
        dueEvents("SCOPE session and file", x, "make 0=0, make 1=0, steps 0.0, end 1=0, endFails 0=0");
        CHECK.dueText("which is no CASE's", "0.0:1 -1 0 1", Told.outcomes(x, 1));
        CHECK.dueText("LEAKED all the same", "1 1 1", Told.counted(x, 0));
    }

    private static void endsInReverse() {
        CHECK.sentence(8, "ENDING is always in reverse order of MADE");
        FixtureOrder x = new FixtureOrder();
        x.fixture(CASE, 1, false, false);
        x.fixture(SESSION, 2, false, false);
        x.fixture(CASE, 1, false, false);
        x.fixture(FILE, 1, false, false);
        addTests(x, new int[][] {{0, 2, 3, 0, 1}, {1, 1, 3}});
        x.run(0);
        dueEvents("in (1), in (3) and behind the last", x,
                "make 2=0, make 3=0, make 0=0, make 1=0, steps 0.0, end 0=0, end 2=0, "
                + "end 1=0, make 2=0, make 0=0, make 1=1, steps 1.0, end 0=0, end 2=0, "
                + "end 1=1, end 3=0, make 1=0, make 3=0, steps 2.0, end 1=0, make 1=1, steps 3.0, "
                + "end 1=1, end 3=0");
    }

    private static void leakedIsMadeAgain() {
        CHECK.sentence(8, "One whose ENDING fails isn't MADE any more all the same");
        FixtureOrder x = new FixtureOrder();
        x.fixture(SESSION, 2, false, true);
        addTests(x, new int[][] {{0, 0}});
        x.run(0);
        dueEvents("it is MADE again", x, "make 0=0, steps 0.0, endFails 0=0, make 0=1, steps 1.0, endFails 0=1");
        CHECK.dueText("it counts as LEAKED", "2 2 2", Told.counted(x, 0));
    }

    // OUTCOME

    private static void outcomeFive() {
        CHECK.sentence(8, "5 if it PASSED, but an ENDING in (3) of its last TRY failed");
        FixtureOrder x = new FixtureOrder();
        x.fixture(CASE, 1, false, true);
        addTests(x, new int[][] {{0, 0}});
        x.run(0);
        CHECK.dueText("the first of them is not SUPPRESSED", "0.0:5 -1 0 1", Told.outcomes(x, 1));
        x.fails(0, 1, 1);
        x.run(0);
        CHECK.dueText("that of the TRY before is", "0.0:5 -1 1 2", Told.outcomes(x, 1));
    }

    private static void outcomeFiveByAnEarlierFile() {
        CHECK.sentence(8, "5 if it PASSED, but an ENDING in (1) failed");
        FixtureOrder x = new FixtureOrder();
        x.fixture(FILE, 1, false, true);
        x.fixture(FILE, 1, false, true);
        addTests(x, new int[][] {{0, 0, 1}, {1}});
        x.fails(1, 1, 1);
        x.run(0);
        CHECK.dueText("it is that of the CASE that comes, also in its last TRY",
                "0.0:1 -1 0 1, 1.0:5 -1 1 2", Told.outcomes(x, 2));
    }

    private static void suppressedButTheFirst() {
        CHECK.sentence(8, "SUPPRESSED: each ENDING that failed in its (1) or in (3) of any TRY, but the first");
        FixtureOrder x = new FixtureOrder();
        x.fixture(CASE, 1, false, true);
        x.fixture(CASE, 1, false, true);
        x.fixture(FILE, 1, false, true);
        addTests(x, new int[][] {{0, 2}, {1, 0, 1}});
        x.fails(1, 2, 2);
        x.run(0);
        CHECK.dueText("one in (1), two in each of three TRIES", "0.0:1 -1 0 1, 1.0:5 -1 6 3", Told.outcomes(x, 2));
    }

    private static void suppressedOfFailedCutUnmade() {
        CHECK.sentence(8, "but the first of them if the OUTCOME is 5: of another none is left out");
        FixtureOrder x = new FixtureOrder();
        x.fixture(CASE, 1, false, true);
        x.fixture(FILE, 1, false, true);
        x.fixture(CASE, 1, true, true);
        addTests(x, new int[][] {{0, 1}, {1, 0, 1}, {2, 0, 1}, {3, 0, 2}});
        x.fails(1, 2, 1);
        x.takes(2, 1, 0);
        x.run(0);
        CHECK.dueText("FAILED, CUT, UNMADE",
                "0.0:1 -1 0 1, 1.0:2 -1 3 2, 2.0:3 -1 2 1, 3.0:4 2 2 1", Told.outcomes(x, 4));
    }
}
