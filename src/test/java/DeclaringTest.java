/** Promises 1 to 7: a new object, fixture, needs, test, uses, takes, fails. */
public final class DeclaringTest {
    private static final int LEAST = Integer.MIN_VALUE;
    private static final int MOST = Integer.MAX_VALUE;
    private static final Check CHECK = new Check();

    public static void main(String[] args) {
        newObject();
        fixture();
        needs();
        needsRings();
        test();
        uses();
        takes();
        fails();
        CHECK.finish();
    }

    private static FixtureOrder withFixtures(int count, int scope) {
        FixtureOrder x = new FixtureOrder();
        for (int i = 0; i < count; i++) {
            x.fixture(scope, 1, false, false);
        }
        return x;
    }

    private static void newObject() {
        FixtureOrder x = new FixtureOrder();
        CHECK.due("NONE", -1, FixtureOrder.NONE);
        CHECK.due("1: events()", 0, x.events());
        CHECK.due("1: event(0, 0)", -1, x.event(0, 0));
        CHECK.due("1: outcome(0, 0)", -1, x.outcome(0, 0));
        CHECK.due("1: counted(0, 0)", -1, x.counted(0, 0));
        CHECK.due("1: closure(0, 0)", -1, x.closure(0, 0));
        CHECK.due("1: cases(0)", -1, x.cases(0));
        CHECK.due("1: needs(0, 0)", -1, x.needs(0, 0));
        CHECK.due("1: uses(0, 0)", false, x.uses(0, 0));
        CHECK.due("1: takes(0, 0, 0)", false, x.takes(0, 0, 0));
        CHECK.due("1: fails(0, 0, 0)", false, x.fails(0, 0, 0));
        CHECK.due("1: run(0)", 0, x.run(0));
        CHECK.due("1: run(1)", 0, x.run(1));
        CHECK.due("1: the first fixture", 0, x.fixture(0, 1, false, false));
        CHECK.due("1: the first test", 0, x.test(0));
    }

    private static void fixture() {
        FixtureOrder x = new FixtureOrder();
        int[] wrongScopes = {-1, 3, LEAST, MOST};
        for (int scope : wrongScopes) {
            CHECK.due("2: scope " + scope, -1, x.fixture(scope, 1, false, false));
        }
        int[] wrongValues = {0, 4, -1, LEAST, MOST};
        for (int values : wrongValues) {
            CHECK.due("2: values " + values, -1, x.fixture(0, values, false, false));
        }
        for (int i = 0; i < 12; i++) {
            CHECK.due("2: fixture " + i, i, x.fixture(i % 3, 1 + i % 3, i % 2 == 0, i % 4 == 0));
        }
        CHECK.due("2: a 13th", -1, x.fixture(0, 1, false, false));
        CHECK.due("2: a 14th", -1, x.fixture(2, 3, true, true));
        x.test(0);
        CHECK.due("2: the 12th is there", true, x.uses(0, 11));
        CHECK.due("2: no 13th is there", false, x.uses(0, 12));
    }

    private static void needs() {
        FixtureOrder x = withFixtures(12, 2);
        CHECK.due("3: needs(-1, 0)", -1, x.needs(-1, 0));
        CHECK.due("3: needs(0, -1)", -1, x.needs(0, -1));
        CHECK.due("3: needs(12, 0)", -1, x.needs(12, 0));
        CHECK.due("3: needs(0, 12)", -1, x.needs(0, 12));
        CHECK.due("3: needs(least, most)", -1, x.needs(LEAST, MOST));
        for (int other = 1; other <= 6; other++) {
            CHECK.due("3: needs(0, " + other + ")", 1, x.needs(0, other));
            CHECK.due("3: needs(0, " + other + ") again", -1, x.needs(0, other));
        }
        CHECK.due("3: a 7th", -1, x.needs(0, 7));
        CHECK.due("3: a ring, but it has 6", -1, x.needs(0, 0));
        CHECK.due("3: another one still has room", 1, x.needs(7, 0));

        FixtureOrder y = new FixtureOrder();
        for (int scope = 0; scope < 3; scope++) {
            y.fixture(scope, 1, false, false);
            y.fixture(scope, 1, false, false);
        }
        for (int one = 0; one < 6; one++) {
            for (int other = one + 1; other < 6; other++) {
                CHECK.due("3: needs(" + one + ", " + other + ")", 1, y.needs(one, other));
                int back = one / 2 == other / 2 ? -2 : -1;
                CHECK.due("3: needs(" + other + ", " + one + ")", back, y.needs(other, one));
            }
        }
    }

    private static void needsRings() {
        FixtureOrder x = withFixtures(12, 1);
        CHECK.due("3: itself", -2, x.needs(4, 4));
        for (int i = 10; i >= 0; i -= 2) {
            CHECK.due("3: even links first", 1, x.needs(i, i + 1));
        }
        for (int i = 1; i < 11; i += 2) {
            CHECK.due("3: odd links join them", 1, x.needs(i, i + 1));
        }
        for (int high = 1; high < 12; high++) {
            for (int low = 0; low < high; low++) {
                CHECK.due("3: ring " + high + " " + low, -2, x.needs(high, low));
            }
        }
        x.test(0);
        x.uses(0, 0);
        CHECK.dueText("3: refused needs leave no trace", "11 10 9 8 7 6 5 4 3 2 1 0", Told.closure(x, 0));
        CHECK.due("3: a shortcut is no ring", 1, x.needs(0, 11));

        FixtureOrder y = withFixtures(2, 0);
        y.fixture(2, 1, false, false);
        y.needs(0, 2);
        CHECK.due("3: a ring by a lesser scope is - 1", -1, y.needs(2, 0));
    }

    private static void test() {
        FixtureOrder x = new FixtureOrder();
        int[] wrongFiles = {-1, 8, LEAST, MOST};
        for (int file : wrongFiles) {
            CHECK.due("4: file " + file, -1, x.test(file));
        }
        for (int i = 0; i < 20; i++) {
            CHECK.due("4: test " + i, i, x.test(i % 8));
        }
        CHECK.due("4: a 21st", -1, x.test(0));
        CHECK.due("4: cases(19)", 1, x.cases(19));
        CHECK.due("4: cases(20)", -1, x.cases(20));
        CHECK.due("4: run(0)", 20, x.run(0));
        for (int i = 0; i < 20; i++) {
            CHECK.due("4: a new test passes", 1, x.outcome(i, 2));
            CHECK.due("4: in one try", 1, x.outcome(i, 5));
        }
        FixtureOrder y = new FixtureOrder();
        y.test(0);
        y.takes(0, 1, 0);
        y.run(0);
        CHECK.dueText("4: a new test has no retries", "0.0:3 -1 0 1", Told.outcomes(y, 1));
    }

    private static void uses() {
        FixtureOrder x = withFixtures(8, 0);
        x.test(0);
        x.test(0);
        CHECK.due("5: uses(-1, 0)", false, x.uses(-1, 0));
        CHECK.due("5: uses(2, 0)", false, x.uses(2, 0));
        CHECK.due("5: uses(0, -1)", false, x.uses(0, -1));
        CHECK.due("5: uses(0, 8)", false, x.uses(0, 8));
        CHECK.due("5: uses(most, least)", false, x.uses(MOST, LEAST));
        for (int fixture = 5; fixture >= 0; fixture--) {
            CHECK.due("5: uses(0, " + fixture + ")", true, x.uses(0, fixture));
            CHECK.due("5: uses(0, " + fixture + ") again", false, x.uses(0, fixture));
        }
        CHECK.due("5: a 7th", false, x.uses(0, 6));
        CHECK.dueText("5: closure", "5 4 3 2 1 0", Told.closure(x, 0));
        CHECK.due("5: another test", true, x.uses(1, 6));
        CHECK.dueText("5: its closure", "6", Told.closure(x, 1));

        x.needs(6, 7);
        CHECK.due("5: what is needed may be used too", true, x.uses(1, 7));
        CHECK.dueText("5: once in the closure", "7 6", Told.closure(x, 1));
    }

    private static void takes() {
        FixtureOrder x = new FixtureOrder();
        x.test(0);
        CHECK.due("6: takes(0, 5, 4)", true, x.takes(0, 5, 4));
        CHECK.due("6: takes(-1, 0, 0)", false, x.takes(-1, 0, 0));
        CHECK.due("6: takes(1, 0, 0)", false, x.takes(1, 0, 0));
        CHECK.due("6: takes(0, -1, 9)", false, x.takes(0, -1, 9));
        CHECK.due("6: takes(0, 0, -1)", false, x.takes(0, 0, -1));
        CHECK.due("6: takes(0, least, least)", false, x.takes(0, LEAST, LEAST));
        x.run(0);
        CHECK.due("6: 5 above 4 is CUT", 3, x.outcome(0, 2));
        int[][] rows = {{5, 5, 1}, {0, 0, 1}, {1, 0, 3}, {MOST, MOST, 1}, {MOST, 0, 3}, {0, MOST, 1}};
        for (int[] row : rows) {
            CHECK.due("6: takes", true, x.takes(0, row[0], row[1]));
            x.run(0);
            CHECK.due("6: steps " + row[0] + " limit " + row[1], row[2], x.outcome(0, 2));
        }
    }

    private static void fails() {
        FixtureOrder x = new FixtureOrder();
        x.test(0);
        int[] wrong = {-1, 3, LEAST, MOST};
        CHECK.due("7: fails(0, 1, 0)", true, x.fails(0, 1, 0));
        for (int number : wrong) {
            CHECK.due("7: tries " + number, false, x.fails(0, number, 2));
            CHECK.due("7: retries " + number, false, x.fails(0, 0, number));
        }
        CHECK.due("7: fails(-1, 0, 0)", false, x.fails(-1, 0, 0));
        CHECK.due("7: fails(1, 0, 0)", false, x.fails(1, 0, 0));
        x.run(0);
        CHECK.dueText("7: what was refused left no trace", "0.0:2 -1 0 1", Told.outcomes(x, 1));
        for (int tries = 0; tries <= 2; tries++) {
            for (int retries = 0; retries <= 2; retries++) {
                CHECK.due("7: fails", true, x.fails(0, tries, retries));
                x.run(0);
                CHECK.due("7: outcome " + tries + " " + retries, tries > retries ? 2 : 1, x.outcome(0, 2));
                CHECK.due("7: tries " + tries + " " + retries, Math.min(tries, retries) + 1, x.outcome(0, 5));
            }
        }
        x.takes(0, 1, 0);
        x.fails(0, 0, 2);
        x.run(0);
        CHECK.dueText("7: a CUT one is tried again", "0.0:3 -1 0 3", Told.outcomes(x, 1));
        x.fails(0, 2, 2);
        x.run(0);
        CHECK.dueText("7: CUT goes before FAILED", "0.0:3 -1 0 3", Told.outcomes(x, 1));
    }
}
