/** Promises 1 to 7: a new object, fixture, needs, test, uses, takes, fails. A test for each sentence. */
public final class DeclaringTest {
    private static final int LEAST = Integer.MIN_VALUE;
    private static final int MOST = Integer.MAX_VALUE;
    private static final int NONE = FixtureOrder.NONE;
    private static final int CASE = 0;
    private static final int FILE = 1;
    private static final int SESSION = 2;
    private static final Check CHECK = new Check();

    public static void main(String[] args) {
        newObject();
        fixtures();
        needs();
        tests();
        uses();
        takes();
        fails();
        CHECK.finish();
    }

    private static void newObject() {
        newHasNoFixtures();
        newHasNoTests();
        newHasNoRun();
        newIsApartFromOthers();
    }

    private static void fixtures() {
        fixtureNumbers();
        fixtureThirteenth();
        fixtureScopes();
        fixtureValues();
        fixtureRefusedTakesNoNumber();
    }

    private static void needs() {
        needsNoneSuch();
        needsAlready();
        needsSix();
        needsScopeIsLess();
        needsItself();
        needsRing();
        needsRingOfTwelve();
        needsMinusOneBeforeMinusTwo();
        needsRefusedLeavesNoTrace();
    }

    private static void tests() {
        testNumbers();
        testTwentyFirst();
        testFiles();
        testRefusedTakesNoNumber();
        testIsNew();
    }

    private static void uses() {
        usesNoneSuch();
        usesAlready();
        usesSix();
        usesOneThatIsNeeded();
        usesRefusedLeavesNoTrace();
    }

    private static void takes() {
        takesNoneSuch();
        takesBelowZero();
        takesZero();
        takesStepsAtTheLimit();
        takesMost();
        takesRefusedLeavesNoTrace();
    }

    private static void fails() {
        failsNoneSuch();
        failsTriesOutside();
        failsRetriesOutside();
        failsInTheFirstTries();
        failsRefusedLeavesNoTrace();
    }

    private static FixtureOrder withFixtures(int count, int scope) {
        FixtureOrder x = new FixtureOrder();
        for (int i = 0; i < count; i++) {
            x.fixture(scope, 1, false, false);
        }
        return x;
    }

    private static FixtureOrder withTest() {
        FixtureOrder x = new FixtureOrder();
        x.test(0);
        return x;
    }

    private static String ranOutcome(FixtureOrder x) {
        x.run(0);
        return Told.outcomes(x, 1);
    }

    // Promise 1

    private static void newHasNoFixtures() {
        CHECK.sentence(1, "No fixtures");
        FixtureOrder x = new FixtureOrder();
        x.test(0);
        CHECK.due("needs(0, 0)", -1, x.needs(0, 0));
        CHECK.due("uses(0, 0)", false, x.uses(0, 0));
        x.run(0);
        CHECK.due("counted(0, 0)", NONE, x.counted(0, 0));
        CHECK.due("the first fixture", 0, x.fixture(CASE, 1, false, false));
    }

    private static void newHasNoTests() {
        CHECK.sentence(1, "no tests");
        FixtureOrder x = new FixtureOrder();
        x.fixture(CASE, 1, false, false);
        CHECK.due("uses(0, 0)", false, x.uses(0, 0));
        CHECK.due("takes(0, 0, 0)", false, x.takes(0, 0, 0));
        CHECK.due("fails(0, 0, 0)", false, x.fails(0, 0, 0));
        CHECK.due("closure(0, 0)", NONE, x.closure(0, 0));
        CHECK.due("cases(0)", NONE, x.cases(0));
        CHECK.due("run(0)", 0, x.run(0));
        CHECK.due("run(1)", 0, x.run(1));
        CHECK.due("the first test", 0, x.test(0));
    }

    private static void newHasNoRun() {
        CHECK.sentence(1, "a new object");
        FixtureOrder x = new FixtureOrder();
        CHECK.due("events()", 0, x.events());
        CHECK.due("event(0, 0)", NONE, x.event(0, 0));
        CHECK.due("outcome(0, 0)", NONE, x.outcome(0, 0));
        CHECK.due("counted(0, 0)", NONE, x.counted(0, 0));
        CHECK.due("NONE", -1, NONE);
    }

    private static void newIsApartFromOthers() {
        CHECK.sentence(1, "a new object");
        FixtureOrder x = new FixtureOrder();
        x.fixture(SESSION, 2, false, false);
        x.test(0);
        x.uses(0, 0);
        x.run(0);
        FixtureOrder y = new FixtureOrder();
        CHECK.due("run(0) of a second one", 0, y.run(0));
        CHECK.due("test(0) of a second one", 0, y.test(0));
        CHECK.due("closure(0, 0) of a second one", NONE, y.closure(0, 0));
        CHECK.due("events() of the first one", 6, x.events());
    }

    // Promise 2

    private static void fixtureNumbers() {
        CHECK.sentence(2, "its number");
        FixtureOrder x = new FixtureOrder();
        for (int i = 0; i < 12; i++) {
            CHECK.due("fixture " + i, i, x.fixture(i % 3, 1 + i / 4, i % 2 == 0, i % 4 == 0));
        }
        x.test(0);
        CHECK.due("uses(0, 11)", true, x.uses(0, 11));
        CHECK.due("closure(0, 0)", 11, x.closure(0, 0));
    }

    private static void fixtureThirteenth() {
        CHECK.sentence(2, "NONE if there are 12");
        FixtureOrder x = withFixtures(11, CASE);
        CHECK.due("the 12th", 11, x.fixture(CASE, 1, false, false));
        CHECK.due("the 13th", NONE, x.fixture(CASE, 1, false, false));
        CHECK.due("the 13th once more", NONE, x.fixture(SESSION, 3, true, true));
        x.test(0);
        CHECK.due("uses(0, 12)", false, x.uses(0, 12));
        CHECK.due("needs(0, 12)", -1, x.needs(0, 12));
        CHECK.due("uses(0, 11)", true, x.uses(0, 11));
        CHECK.dueText("the last one is as it was", "0.0:1 -1 0 1", ranOutcome(x));
    }

    private static void fixtureScopes() {
        CHECK.sentence(2, "NONE if there is no such SCOPE");
        int[] wrong = {-1, 3, 4, LEAST, MOST};
        for (int scope : wrong) {
            CHECK.due("scope " + scope, NONE, new FixtureOrder().fixture(scope, 1, false, false));
        }
        for (int scope = 0; scope <= 2; scope++) {
            CHECK.due("scope " + scope, 0, new FixtureOrder().fixture(scope, 1, false, false));
        }
    }

    private static void fixtureValues() {
        CHECK.sentence(2, "NONE if there is no such number of VALUES");
        int[] wrong = {0, -1, 4, 5, LEAST, MOST};
        for (int values : wrong) {
            CHECK.due("values " + values, NONE, new FixtureOrder().fixture(CASE, values, false, false));
        }
        for (int values = 1; values <= 3; values++) {
            FixtureOrder x = withTest();
            CHECK.due("values " + values, 0, x.fixture(CASE, values, false, false));
            x.uses(0, 0);
            CHECK.due("cases with so many values", values, x.run(0));
            CHECK.due("the first one's VALUE", 0, x.event(0, 2));
            CHECK.due("the last one's VALUE", values - 1, x.event(x.events() - 1, 2));
        }
    }

    private static void fixtureRefusedTakesNoNumber() {
        CHECK.sentence(2, "NONE");
        FixtureOrder x = withFixtures(1, CASE);
        x.fixture(3, 1, false, false);
        x.fixture(-1, 1, false, false);
        x.fixture(CASE, 0, false, false);
        x.fixture(CASE, 4, false, false);
        x.test(0);
        CHECK.due("uses(0, 1)", false, x.uses(0, 1));
        CHECK.due("the next one", 1, x.fixture(CASE, 1, false, false));
        CHECK.due("uses(0, 1)", true, x.uses(0, 1));
    }

    // Promise 3

    private static void needsNoneSuch() {
        CHECK.sentence(3, "- 1 if there are none such");
        FixtureOrder x = withFixtures(2, CASE);
        int[] wrong = {-1, 2, 11, 12, LEAST, MOST};
        for (int number : wrong) {
            CHECK.due("needs(" + number + ", 0)", -1, x.needs(number, 0));
            CHECK.due("needs(0, " + number + ")", -1, x.needs(0, number));
            CHECK.due("needs(" + number + ", same)", -1, x.needs(number, number));
        }
        CHECK.due("needs(0, 1)", 1, x.needs(0, 1));
        FixtureOrder y = withFixtures(12, CASE);
        CHECK.due("needs(12, 0)", -1, y.needs(12, 0));
        CHECK.due("needs(0, 12)", -1, y.needs(0, 12));
        CHECK.due("needs(11, 0)", 1, y.needs(11, 0));
        CHECK.due("needs(10, 11)", 1, y.needs(10, 11));
    }

    private static void needsAlready() {
        CHECK.sentence(3, "- 1 if it does already");
        FixtureOrder x = withFixtures(3, CASE);
        CHECK.due("needs(0, 1)", 1, x.needs(0, 1));
        CHECK.due("needs(0, 1) again", -1, x.needs(0, 1));
        CHECK.due("needs(1, 2)", 1, x.needs(1, 2));
        CHECK.due("needs(0, 2), so far by way of 1", 1, x.needs(0, 2));
        CHECK.due("needs(0, 2) again", -1, x.needs(0, 2));
    }

    private static void needsSix() {
        CHECK.sentence(3, "- 1 if it has 6");
        FixtureOrder x = withFixtures(12, SESSION);
        for (int other = 1; other <= 6; other++) {
            CHECK.due("needs(0, " + other + ")", 1, x.needs(0, other));
        }
        CHECK.due("needs(0, 7)", -1, x.needs(0, 7));
        CHECK.due("needs(0, 11)", -1, x.needs(0, 11));
        CHECK.due("needs(1, 7), which has none", 1, x.needs(1, 7));
        for (int one = 7; one <= 11; one++) {
            CHECK.due("needs(" + one + ", 6), which is needed by others", 1, x.needs(one, 6));
        }
        x.test(0);
        x.uses(0, 0);
        CHECK.dueText("closure", "6 7 1 2 3 4 5 0", Told.closure(x, 0));
    }

    private static void needsScopeIsLess() {
        CHECK.sentence(3, "- 1 if the other one's SCOPE is less");
        for (int one = CASE; one <= SESSION; one++) {
            for (int other = CASE; other <= SESSION; other++) {
                FixtureOrder x = new FixtureOrder();
                x.fixture(one, 1, false, false);
                x.fixture(other, 1, false, false);
                CHECK.due("scope " + one + " needs " + other, other < one ? -1 : 1, x.needs(0, 1));
            }
        }
    }

    private static void needsItself() {
        CHECK.sentence(3, "- 2 if a ring would be: of one");
        for (int scope = CASE; scope <= SESSION; scope++) {
            CHECK.due("needs(11, 11)", -2, withFixtures(12, scope).needs(11, 11));
            CHECK.due("needs(0, 0)", -2, withFixtures(1, scope).needs(0, 0));
        }
    }

    private static void needsRing() {
        CHECK.sentence(3, "- 2 if a ring would be: of two and more");
        FixtureOrder x = withFixtures(4, FILE);
        x.needs(0, 1);
        CHECK.due("needs(1, 0)", -2, x.needs(1, 0));
        x.needs(2, 3);
        CHECK.due("needs(1, 2) joins two ways", 1, x.needs(1, 2));
        CHECK.due("needs(3, 0)", -2, x.needs(3, 0));
        CHECK.due("needs(3, 1)", -2, x.needs(3, 1));
        CHECK.due("needs(2, 0)", -2, x.needs(2, 0));
        CHECK.due("needs(0, 3), a shorter way", 1, x.needs(0, 3));
        CHECK.due("needs(0, 2), two ways to one", 1, x.needs(0, 2));
    }

    private static void needsRingOfTwelve() {
        CHECK.sentence(3, "- 2 if a ring would be: of all");
        FixtureOrder x = withFixtures(12, CASE);
        for (int i = 10; i >= 0; i -= 2) {
            CHECK.due("needs(" + i + ", " + (i + 1) + ")", 1, x.needs(i, i + 1));
        }
        for (int i = 1; i < 11; i += 2) {
            CHECK.due("needs(" + i + ", " + (i + 1) + ")", 1, x.needs(i, i + 1));
        }
        for (int high = 1; high < 12; high++) {
            for (int low = 0; low < high; low++) {
                CHECK.due("needs(" + high + ", " + low + ")", -2, x.needs(high, low));
            }
        }
        CHECK.due("needs(0, 11)", 1, x.needs(0, 11));
    }

    private static void needsMinusOneBeforeMinusTwo() {
        CHECK.sentence(3, "else - 2");
        FixtureOrder x = withFixtures(12, SESSION);
        for (int other = 1; other <= 6; other++) {
            x.needs(0, other);
        }
        CHECK.due("needs(0, 0) of one that has 6", -1, x.needs(0, 0));
        x.needs(7, 0);
        CHECK.due("needs(0, 7), a ring, of one that has 6", -1, x.needs(0, 7));
        FixtureOrder y = withFixtures(1, CASE);
        y.fixture(SESSION, 1, false, false);
        y.needs(0, 1);
        CHECK.due("needs(1, 0), a ring to a lesser SCOPE", -1, y.needs(1, 0));
    }

    private static void needsRefusedLeavesNoTrace() {
        CHECK.sentence(3, "- 1, - 2");
        FixtureOrder x = withFixtures(8, FILE);
        x.fixture(CASE, 1, false, false);
        x.test(0);
        x.uses(0, 0);
        for (int i = 0; i < 7; i++) {
            x.needs(0, 0);
            x.needs(0, 8);
            x.needs(0, 9);
            x.needs(-1, 1);
        }
        CHECK.dueText("closure", "0", Told.closure(x, 0));
        for (int other = 1; other <= 6; other++) {
            CHECK.due("needs(0, " + other + "), which still has room", 1, x.needs(0, other));
            x.needs(0, other);
            x.needs(other, 0);
        }
        x.needs(0, 7);
        CHECK.dueText("closure", "1 2 3 4 5 6 0", Told.closure(x, 0));
        CHECK.due("needs(7, 0), no ring as 0 was refused 7", 1, x.needs(7, 0));
    }

    // Promise 4

    private static void testNumbers() {
        CHECK.sentence(4, "its number");
        FixtureOrder x = new FixtureOrder();
        for (int i = 0; i < 20; i++) {
            CHECK.due("test " + i, i, x.test(i % 8));
        }
        CHECK.due("cases(19)", 1, x.cases(19));
        CHECK.due("run(0)", 20, x.run(0));
        CHECK.due("outcome(19, 0)", 19, x.outcome(19, 0));
    }

    private static void testTwentyFirst() {
        CHECK.sentence(4, "NONE if there are 20");
        FixtureOrder x = new FixtureOrder();
        for (int i = 0; i < 19; i++) {
            x.test(0);
        }
        CHECK.due("the 20th", 19, x.test(7));
        CHECK.due("the 21st", NONE, x.test(0));
        CHECK.due("the 21st once more", NONE, x.test(7));
        CHECK.due("cases(20)", NONE, x.cases(20));
        CHECK.due("run(0)", 20, x.run(0));
        CHECK.due("run(1)", 20, x.run(1));
    }

    private static void testFiles() {
        CHECK.sentence(4, "NONE if there is no such FILE");
        int[] wrong = {-1, 8, 9, LEAST, MOST};
        for (int file : wrong) {
            CHECK.due("file " + file, NONE, new FixtureOrder().test(file));
        }
        for (int file = 0; file <= 7; file++) {
            CHECK.due("file " + file, 0, new FixtureOrder().test(file));
        }
    }

    private static void testRefusedTakesNoNumber() {
        CHECK.sentence(4, "NONE");
        FixtureOrder x = new FixtureOrder();
        x.test(8);
        x.test(-1);
        CHECK.due("cases(0)", NONE, x.cases(0));
        CHECK.due("run(0)", 0, x.run(0));
        CHECK.due("the next one", 0, x.test(3));
        CHECK.due("run(0)", 1, x.run(0));
    }

    private static void testIsNew() {
        CHECK.sentence(4, "no STEPS and LIMIT 0, never fails, without RETRIES");
        FixtureOrder x = withTest();
        CHECK.dueText("it passes in one TRY", "0.0:1 -1 0 1", ranOutcome(x));
        CHECK.due("closure(0, 0)", NONE, x.closure(0, 0));
        FixtureOrder y = withTest();
        y.takes(0, 1, 0);
        CHECK.dueText("without RETRIES", "0.0:3 -1 0 1", ranOutcome(y));
    }

    // Promise 5

    private static void usesNoneSuch() {
        CHECK.sentence(5, "false if there are none such");
        FixtureOrder x = withFixtures(2, CASE);
        x.test(0);
        int[] wrongTests = {-1, 1, 19, 20, LEAST, MOST};
        for (int test : wrongTests) {
            CHECK.due("uses(" + test + ", 0)", false, x.uses(test, 0));
        }
        int[] wrongFixtures = {-1, 2, 11, 12, LEAST, MOST};
        for (int fixture : wrongFixtures) {
            CHECK.due("uses(0, " + fixture + ")", false, x.uses(0, fixture));
        }
        CHECK.due("uses(0, 1)", true, x.uses(0, 1));
    }

    private static void usesAlready() {
        CHECK.sentence(5, "false if it does already");
        FixtureOrder x = withFixtures(2, CASE);
        x.test(0);
        x.test(0);
        CHECK.due("uses(0, 1)", true, x.uses(0, 1));
        CHECK.due("uses(0, 1) again", false, x.uses(0, 1));
        CHECK.due("uses(0, 0)", true, x.uses(0, 0));
        CHECK.due("uses(0, 1) once more", false, x.uses(0, 1));
        CHECK.due("uses(1, 1) of another", true, x.uses(1, 1));
        CHECK.dueText("closure", "1 0", Told.closure(x, 0));
    }

    private static void usesSix() {
        CHECK.sentence(5, "false if it has 6");
        FixtureOrder x = withFixtures(12, CASE);
        x.test(0);
        x.test(0);
        for (int fixture = 6; fixture <= 11; fixture++) {
            CHECK.due("uses(0, " + fixture + ")", true, x.uses(0, fixture));
        }
        CHECK.due("uses(0, 5)", false, x.uses(0, 5));
        CHECK.due("uses(0, 0)", false, x.uses(0, 0));
        CHECK.dueText("closure", "6 7 8 9 10 11", Told.closure(x, 0));
        CHECK.due("uses(1, 5) of another", true, x.uses(1, 5));
        for (int other = 0; other <= 5; other++) {
            x.needs(6 + other, other);
        }
        CHECK.dueText("by NEEDS there may be more", "0 6 1 7 2 8 3 9 4 10 5 11", Told.closure(x, 0));
    }

    private static void usesOneThatIsNeeded() {
        CHECK.sentence(5, "it does already: USES, not NEEDS");
        FixtureOrder x = withFixtures(2, CASE);
        x.needs(0, 1);
        x.test(0);
        CHECK.due("uses(0, 0)", true, x.uses(0, 0));
        CHECK.due("uses(0, 1), so far by NEEDS", true, x.uses(0, 1));
        CHECK.dueText("closure", "1 0", Told.closure(x, 0));
    }

    private static void usesRefusedLeavesNoTrace() {
        CHECK.sentence(5, "false");
        FixtureOrder x = withFixtures(7, CASE);
        x.test(0);
        x.uses(0, 0);
        for (int i = 0; i < 7; i++) {
            x.uses(0, 0);
            x.uses(0, 7);
            x.uses(1, 1);
        }
        CHECK.dueText("closure", "0", Told.closure(x, 0));
        for (int fixture = 1; fixture <= 5; fixture++) {
            CHECK.due("uses(0, " + fixture + "), which still has room", true, x.uses(0, fixture));
        }
        x.uses(0, 6);
        CHECK.dueText("closure", "0 1 2 3 4 5", Told.closure(x, 0));
    }

    // Promise 6

    private static void takesNoneSuch() {
        CHECK.sentence(6, "false if there is none such");
        FixtureOrder x = withTest();
        int[] wrong = {-1, 1, 19, 20, LEAST, MOST};
        for (int test : wrong) {
            CHECK.due("takes(" + test + ", 1, 0)", false, x.takes(test, 1, 0));
        }
        CHECK.dueText("no other one is changed", "0.0:1 -1 0 1", ranOutcome(x));
        CHECK.due("takes(0, 1, 0)", true, x.takes(0, 1, 0));
    }

    private static void takesBelowZero() {
        CHECK.sentence(6, "false if one is below 0");
        FixtureOrder x = withTest();
        int[][] wrong = {{-1, 0}, {0, -1}, {-1, -1}, {LEAST, 0}, {0, LEAST}, {LEAST, MOST}, {MOST, LEAST}};
        for (int[] row : wrong) {
            CHECK.due("takes(0, " + row[0] + ", " + row[1] + ")", false, x.takes(0, row[0], row[1]));
        }
    }

    private static void takesZero() {
        CHECK.sentence(6, "STEPS (0 or more)");
        FixtureOrder x = withTest();
        CHECK.due("takes(0, 0, 0)", true, x.takes(0, 0, 0));
        CHECK.dueText("no STEPS, LIMIT 0", "0.0:1 -1 0 1", ranOutcome(x));
        CHECK.dueText("no STEPS are taken too", "steps 0.0", Told.events(x));
    }

    private static void takesStepsAtTheLimit() {
        CHECK.sentence(6, "CUT, if they are above LIMIT");
        FixtureOrder x = withTest();
        int[][] rows = {{4, 5, 1}, {5, 5, 1}, {6, 5, 3}, {1, 0, 3}, {0, 1, 1}};
        for (int[] row : rows) {
            CHECK.due("takes(0, " + row[0] + ", " + row[1] + ")", true, x.takes(0, row[0], row[1]));
            x.run(0);
            CHECK.due("OUTCOME of " + row[0] + " STEPS with LIMIT " + row[1], row[2], x.outcome(0, 2));
            CHECK.dueText("EVENTS", "steps 0.0", Told.events(x));
        }
    }

    private static void takesMost() {
        CHECK.sentence(6, "a TEST's STEPS and LIMIT, the greatest there are");
        FixtureOrder x = withTest();
        int[][] rows = {{MOST, MOST, 1}, {MOST, MOST - 1, 3}, {MOST, 0, 3}, {0, MOST, 1}, {MOST - 1, MOST, 1}};
        for (int[] row : rows) {
            CHECK.due("takes(0, " + row[0] + ", " + row[1] + ")", true, x.takes(0, row[0], row[1]));
            x.run(0);
            CHECK.due("OUTCOME of " + row[0] + " STEPS with LIMIT " + row[1], row[2], x.outcome(0, 2));
        }
    }

    private static void takesRefusedLeavesNoTrace() {
        CHECK.sentence(6, "false");
        FixtureOrder x = withTest();
        x.takes(0, 5, 4);
        x.takes(0, -1, 9);
        CHECK.dueText("LIMIT is as it was", "0.0:3 -1 0 1", ranOutcome(x));
        x.takes(0, 0, -1);
        CHECK.dueText("STEPS are as they were", "0.0:3 -1 0 1", ranOutcome(x));
        x.takes(0, 5, 5);
        x.takes(0, 6, -1);
        x.takes(0, -1, 4);
        CHECK.dueText("both are as they were", "0.0:1 -1 0 1", ranOutcome(x));
    }

    // Promise 7

    private static void failsNoneSuch() {
        CHECK.sentence(7, "false if there is none such");
        FixtureOrder x = withTest();
        int[] wrong = {-1, 1, 19, 20, LEAST, MOST};
        for (int test : wrong) {
            CHECK.due("fails(" + test + ", 2, 0)", false, x.fails(test, 2, 0));
        }
        CHECK.dueText("no other one is changed", "0.0:1 -1 0 1", ranOutcome(x));
        CHECK.due("fails(0, 2, 0)", true, x.fails(0, 2, 0));
    }

    private static void failsTriesOutside() {
        CHECK.sentence(7, "false if the TRIES aren't 0 .. 2");
        FixtureOrder x = withTest();
        int[] wrong = {-1, 3, 4, LEAST, MOST};
        for (int tries : wrong) {
            CHECK.due("fails(0, " + tries + ", 0)", false, x.fails(0, tries, 0));
            CHECK.due("fails(0, " + tries + ", 2)", false, x.fails(0, tries, 2));
        }
        for (int tries = 0; tries <= 2; tries++) {
            CHECK.due("fails(0, " + tries + ", 0)", true, x.fails(0, tries, 0));
        }
    }

    private static void failsRetriesOutside() {
        CHECK.sentence(7, "false if the RETRIES aren't 0 .. 2");
        FixtureOrder x = withTest();
        int[] wrong = {-1, 3, 4, LEAST, MOST};
        for (int retries : wrong) {
            CHECK.due("fails(0, 0, " + retries + ")", false, x.fails(0, 0, retries));
            CHECK.due("fails(0, 2, " + retries + ")", false, x.fails(0, 2, retries));
        }
        for (int retries = 0; retries <= 2; retries++) {
            CHECK.due("fails(0, 0, " + retries + ")", true, x.fails(0, 0, retries));
        }
    }

    private static void failsInTheFirstTries() {
        CHECK.sentence(7, "in their first so many TRIES; at most 1 + RETRIES times");
        FixtureOrder x = withTest();
        for (int tries = 0; tries <= 2; tries++) {
            for (int retries = 0; retries <= 2; retries++) {
                String call = "fails(0, " + tries + ", " + retries + ")";
                CHECK.due(call, true, x.fails(0, tries, retries));
                x.run(0);
                CHECK.due("OUTCOME behind " + call, tries > retries ? 2 : 1, x.outcome(0, 2));
                CHECK.due("TRIES behind " + call, Math.min(tries, retries) + 1, x.outcome(0, 5));
                CHECK.due("EVENTS behind " + call, Math.min(tries, retries) + 1, x.events());
            }
        }
    }

    private static void failsRefusedLeavesNoTrace() {
        CHECK.sentence(7, "false");
        FixtureOrder x = withTest();
        x.fails(0, 1, 0);
        x.fails(0, 3, 2);
        CHECK.dueText("RETRIES are as they were", "0.0:2 -1 0 1", ranOutcome(x));
        x.fails(0, 0, 3);
        CHECK.dueText("TRIES are as they were", "0.0:2 -1 0 1", ranOutcome(x));
        x.fails(0, 1, 1);
        x.fails(0, -1, 2);
        x.fails(0, 2, -1);
        CHECK.dueText("both are as they were", "0.0:1 -1 0 2", ranOutcome(x));
    }
}
