/** Promises 13 and 14: closure and cases. */
public final class ClosureTest {
    private static final Check CHECK = new Check();

    public static void main(String[] args) {
        order();
        wrongPlaces();
        asByNow();
        counts();
        valuesOfCases();
        CHECK.finish();
    }

    private static FixtureOrder withFixtures(int... values) {
        FixtureOrder x = new FixtureOrder();
        for (int v : values) {
            x.fixture(2, v, false, false);
        }
        return x;
    }

    private static void order() {
        FixtureOrder x = withFixtures(1, 1, 1, 1, 1, 1);
        x.test(0);
        CHECK.dueText("13: an empty one", "", Told.closure(x, 0));
        x.needs(0, 3);
        x.needs(0, 1);
        x.needs(3, 4);
        x.needs(1, 4);
        x.uses(0, 2);
        x.uses(0, 0);
        x.uses(0, 1);
        x.uses(0, 5);
        CHECK.dueText("13: needs in order, each once", "2 4 3 1 0 5", Told.closure(x, 0));
    }

    private static void wrongPlaces() {
        FixtureOrder x = withFixtures(1, 1);
        x.test(0);
        x.uses(0, 1);
        int[][] wrong = {{0, 1}, {0, -1}, {1, 0}, {-1, 0}, {0, 12}, {0, Integer.MAX_VALUE},
                {0, Integer.MIN_VALUE}, {Integer.MAX_VALUE, 0}, {Integer.MIN_VALUE, 0}};
        for (int[] row : wrong) {
            CHECK.due("13: closure(" + row[0] + ", " + row[1] + ")", -1, x.closure(row[0], row[1]));
        }
        CHECK.due("13: closure(0, 0)", 1, x.closure(0, 0));
        int[] none = {1, -1, 20, Integer.MAX_VALUE, Integer.MIN_VALUE};
        for (int test : none) {
            CHECK.due("14: cases(" + test + ")", -1, x.cases(test));
        }
    }

    private static void asByNow() {
        FixtureOrder x = withFixtures(2, 3, 1);
        x.test(0);
        x.uses(0, 0);
        CHECK.due("14: two values", 2, x.cases(0));
        x.run(0);
        x.needs(0, 1);
        CHECK.dueText("13: as by now", "1 0", Told.closure(x, 0));
        CHECK.due("14: as by now", 6, x.cases(0));
        CHECK.dueText("11: as then", "0.0:1 -1 0 1, 0.1:1 -1 0 1", Told.outcomes(x, 2));
        CHECK.due("11: no third then", -1, x.outcome(2, 0));
        x.needs(1, 2);
        CHECK.dueText("13: as by now, by way of others", "2 1 0", Told.closure(x, 0));
    }

    private static void counts() {
        int[][] rows = {{1, 1}, {2, 2}, {3, 3}, {4, 2, 2}, {6, 2, 3}, {8, 3, 3}, {8, 2, 2, 2},
                {6, 1, 3, 1, 2}, {8, 2, 2, 2, 2}, {8, 3, 3, 3, 3, 3, 3}, {1, 1, 1, 1}};
        for (int[] row : rows) {
            int[] values = java.util.Arrays.copyOfRange(row, 1, row.length);
            FixtureOrder x = withFixtures(values);
            x.test(0);
            CHECK.due("14: without fixtures", 1, x.cases(0));
            for (int i = 0; i < values.length; i++) {
                x.uses(0, i);
            }
            CHECK.due("14: " + java.util.Arrays.toString(values), row[0], x.cases(0));
            CHECK.due("8: " + java.util.Arrays.toString(values), row[0], x.run(0));
        }
        FixtureOrder y = withFixtures(3, 3, 3, 3, 3, 3, 3, 3, 3, 3, 3, 3);
        y.test(0);
        for (int i = 0; i < 11; i++) {
            y.needs(i, i + 1);
        }
        y.uses(0, 0);
        CHECK.due("14: 12 with 3 values", 8, y.cases(0));
        CHECK.due("8: 12 with 3 values", 8, y.run(0));
    }

    private static void valuesOfCases() {
        FixtureOrder x = new FixtureOrder();
        x.fixture(0, 2, false, false);
        x.fixture(0, 3, false, false);
        x.test(0);
        x.uses(0, 1);
        x.uses(0, 0);
        x.run(0);
        StringBuilder due = new StringBuilder();
        for (int number = 0; number < 6; number++) {
            int slow = number / 2;
            int fast = number % 2;
            due.append(number == 0 ? "" : ", ");
            due.append("make 1=" + slow + ", make 0=" + fast + ", steps " + number + ".0");
            due.append(", end 0=" + fast + ", end 1=" + slow);
        }
        CHECK.dueText("the last one's VALUE rises fastest", due.toString(), Told.events(x));
    }
}
