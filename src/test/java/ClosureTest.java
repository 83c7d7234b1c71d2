import java.util.Arrays;

/** Promises 13 and 14: closure and cases. A test for each sentence. */
public final class ClosureTest {
    private static final int LEAST = Integer.MIN_VALUE;
    private static final int MOST = Integer.MAX_VALUE;
    private static final int NONE = FixtureOrder.NONE;
    private static final Check CHECK = new Check();

    public static void main(String[] args) {
        closureInOrder();
        closureEachOnce();
        closureEmpty();
        closureFull();
        closureNoSuchTest();
        closureNoSuchPlace();
        closureAsByNow();
        casesCounted();
        casesOfAnEmptyClosure();
        casesOfMoreThanEight();
        casesNoSuchTest();
        casesAsByNow();
        valuesRise();
        valuesOfTheFirstEight();
        CHECK.finish();
    }

    private static FixtureOrder withFixtures(int scope, int... values) {
        FixtureOrder x = new FixtureOrder();
        for (int v : values) {
            x.fixture(scope, v, false, false);
        }
        x.test(0);
        return x;
    }

    /** A TEST that USES the FIXTURES in order, as far as it may, with so many VALUES each. */
    private static FixtureOrder using(int... values) {
        FixtureOrder x = withFixtures(0, values);
        for (int i = 0; i < values.length; i++) {
            x.uses(0, i);
        }
        return x;
    }

    /** TEST 0 USES 0, which NEEDS 1, and so on to the twelfth. */
    private static FixtureOrder chainOfTwelve(int values) {
        int[] each = new int[12];
        Arrays.fill(each, values);
        FixtureOrder x = withFixtures(0, each);
        for (int i = 0; i < 11; i++) {
            x.needs(i, i + 1);
        }
        x.uses(0, 0);
        return x;
    }

    /** The VALUES that FIXTURES are MADE with, a group for each CASE. */
    private static String valuesGiven(FixtureOrder x) {
        StringBuilder text = new StringBuilder();
        for (int i = 0; i < x.events(); i++) {
            if (x.event(i, 0) == 0) {
                text.append(x.event(i, 2));
            } else if (x.event(i, 0) == 4) {
                text.append(' ');
            }
        }
        return text.toString().trim();
    }

    // Promise 13

    private static void closureInOrder() {
        CHECK.sentence(13, "those that it NEEDS, in order, likewise before it");
        FixtureOrder x = withFixtures(2, 1, 1, 1, 1, 1, 1);
        x.needs(0, 3);
        x.needs(0, 1);
        x.needs(3, 4);
        x.uses(0, 2);
        x.uses(0, 0);
        x.uses(0, 5);
        CHECK.dueText("closure", "2 4 3 1 0 5", Told.closure(x, 0));
    }

    private static void closureEachOnce() {
        CHECK.sentence(13, "each once");
        FixtureOrder x = withFixtures(2, 1, 1, 1, 1);
        x.needs(0, 1);
        x.needs(0, 2);
        x.needs(1, 3);
        x.needs(2, 3);
        x.uses(0, 0);
        x.uses(0, 3);
        x.uses(0, 1);
        CHECK.dueText("closure", "3 1 2 0", Told.closure(x, 0));
        CHECK.due("closure(0, 4)", NONE, x.closure(0, 4));
    }

    private static void closureEmpty() {
        CHECK.sentence(13, "NONE if there is none such: an empty CLOSURE");
        FixtureOrder x = withFixtures(2, 1, 1);
        x.needs(0, 1);
        CHECK.due("closure(0, 0)", NONE, x.closure(0, 0));
        CHECK.due("closure(0, -1)", NONE, x.closure(0, -1));
        CHECK.due("closure(0, 1)", NONE, x.closure(0, 1));
    }

    private static void closureFull() {
        CHECK.sentence(13, "the i-th: of a CLOSURE of all 12");
        FixtureOrder x = chainOfTwelve(1);
        CHECK.dueText("closure", "11 10 9 8 7 6 5 4 3 2 1 0", Told.closure(x, 0));
        CHECK.due("closure(0, 11)", 0, x.closure(0, 11));
        CHECK.due("closure(0, 12)", NONE, x.closure(0, 12));
    }

    private static void closureNoSuchTest() {
        CHECK.sentence(13, "NONE if there is none such: no such TEST");
        FixtureOrder x = using(1);
        int[] wrong = {-1, 1, 19, 20, LEAST, MOST};
        for (int test : wrong) {
            CHECK.due("closure(" + test + ", 0)", NONE, x.closure(test, 0));
        }
        CHECK.due("closure(0, 0)", 0, x.closure(0, 0));
    }

    private static void closureNoSuchPlace() {
        CHECK.sentence(13, "NONE if there is none such: no such i");
        FixtureOrder x = using(1, 1);
        int[] wrong = {-1, 2, 3, 11, 12, LEAST, MOST};
        for (int i : wrong) {
            CHECK.due("closure(0, " + i + ")", NONE, x.closure(0, i));
        }
        CHECK.due("closure(0, 1)", 1, x.closure(0, 1));
    }

    private static void closureAsByNow() {
        CHECK.sentence(13, "as by now");
        FixtureOrder x = withFixtures(2, 2, 3, 1);
        x.uses(0, 0);
        CHECK.dueText("closure", "0", Told.closure(x, 0));
        x.run(0);
        x.needs(0, 1);
        CHECK.dueText("behind needs(0, 1)", "1 0", Told.closure(x, 0));
        x.needs(1, 2);
        CHECK.dueText("behind needs(1, 2)", "2 1 0", Told.closure(x, 0));
        x.run(2);
        CHECK.dueText("behind a refused run", "2 1 0", Told.closure(x, 0));
        CHECK.dueText("what was run stays as it was", "0.0:1 -1 0 1, 0.1:1 -1 0 1", Told.outcomes(x, 2));
        CHECK.due("outcome(2, 0)", NONE, x.outcome(2, 0));
    }

    // Promise 14

    private static void casesCounted() {
        CHECK.sentence(14, "a CASE for each way to give a VALUE to each FIXTURE");
        int[][] rows = {{1, 1}, {2, 2}, {3, 3}, {4, 2, 2}, {6, 2, 3}, {6, 3, 2}, {8, 2, 2, 2},
                {6, 1, 3, 1, 2}, {1, 1, 1, 1, 1, 1, 1}, {3, 1, 1, 1, 1, 1, 3}};
        for (int[] row : rows) {
            int[] values = Arrays.copyOfRange(row, 1, row.length);
            FixtureOrder x = using(values);
            CHECK.due("cases(0) with " + Arrays.toString(values), row[0], x.cases(0));
            CHECK.due("run(0) with " + Arrays.toString(values), row[0], x.run(0));
        }
    }

    private static void casesOfAnEmptyClosure() {
        CHECK.sentence(14, "a CASE for each way: one way to give none");
        FixtureOrder x = withFixtures(2, 3, 3);
        CHECK.due("cases(0)", 1, x.cases(0));
        CHECK.due("run(0)", 1, x.run(0));
        CHECK.dueText("EVENTS", "steps 0.0", Told.events(x));
    }

    private static void casesOfMoreThanEight() {
        CHECK.sentence(14, "At most 8 CASES");
        int[][] rows = {{3, 3}, {2, 2, 3}, {3, 2, 2}, {2, 2, 2, 2}, {3, 3, 3, 3, 3, 3}, {2, 2, 2, 1, 1, 2}};
        for (int[] values : rows) {
            FixtureOrder x = using(values);
            CHECK.due("cases(0) with " + Arrays.toString(values), 8, x.cases(0));
            CHECK.due("run(0) with " + Arrays.toString(values), 8, x.run(0));
            CHECK.due("run(1) with " + Arrays.toString(values), 8, x.run(1));
        }
        FixtureOrder y = chainOfTwelve(3);
        CHECK.due("cases(0) with 12 of 3 VALUES", 8, y.cases(0));
        CHECK.due("run(0) with 12 of 3 VALUES", 8, y.run(0));
    }

    private static void casesNoSuchTest() {
        CHECK.sentence(14, "NONE if there is none such");
        FixtureOrder x = using(1);
        int[] wrong = {-1, 1, 19, 20, LEAST, MOST};
        for (int test : wrong) {
            CHECK.due("cases(" + test + ")", NONE, x.cases(test));
        }
        CHECK.due("cases(0)", 1, x.cases(0));
    }

    private static void casesAsByNow() {
        CHECK.sentence(14, "as by now");
        FixtureOrder x = withFixtures(2, 2, 3, 2);
        CHECK.due("cases(0)", 1, x.cases(0));
        x.uses(0, 0);
        CHECK.due("cases(0) behind uses(0, 0)", 2, x.cases(0));
        x.run(0);
        x.needs(0, 1);
        CHECK.due("cases(0) behind needs(0, 1)", 6, x.cases(0));
        x.needs(1, 2);
        CHECK.due("cases(0) behind needs(1, 2)", 8, x.cases(0));
        CHECK.due("run(0)", 8, x.run(0));
    }

    private static void valuesRise() {
        CHECK.sentence(14, "in order of the CLOSURE the VALUES rise, the last one's fastest");
        FixtureOrder x = using(3, 2);
        x.run(0);
        CHECK.dueText("VALUES of 3 and 2", "00 01 10 11 20 21", valuesGiven(x));
        FixtureOrder y = using(2, 1, 3);
        y.run(0);
        CHECK.dueText("VALUES of 2, 1 and 3", "000 001 002 100 101 102", valuesGiven(y));
        FixtureOrder z = withFixtures(0, 2, 3);
        z.needs(0, 1);
        z.uses(0, 0);
        z.run(0);
        CHECK.dueText("the order is that of the CLOSURE", "00 01 10 11 20 21", valuesGiven(z));
        CHECK.due("the first is the one that is needed", 1, z.event(0, 1));
    }

    private static void valuesOfTheFirstEight() {
        CHECK.sentence(14, "of more just the first 8");
        FixtureOrder x = using(3, 3);
        x.run(0);
        CHECK.dueText("VALUES of 3 and 3", "00 01 02 10 11 12 20 21", valuesGiven(x));
        FixtureOrder y = using(2, 2, 2, 2);
        y.run(0);
        CHECK.dueText("VALUES of 2, 2, 2 and 2", "0000 0001 0010 0011 0100 0101 0110 0111", valuesGiven(y));
        FixtureOrder z = chainOfTwelve(3);
        z.run(0);
        String head = "000000000";
        StringBuilder due = new StringBuilder();
        for (String tail : new String[] {"000", "001", "002", "010", "011", "012", "020", "021"}) {
            due.append(due.length() == 0 ? "" : " ").append(head).append(tail);
        }
        CHECK.dueText("VALUES of 12 times 3", due.toString(), valuesGiven(z));
    }
}
