import java.util.Arrays;

/**
 * Fixtures of tests: made as they are wanted, once for each scope, ended in reverse on every way.
 * The words in capitals in the comments are those of the document.
 */
public final class FixtureOrder {
    public static final int NONE = -1;

    private static final int MOST_FIXTURES = 12;
    private static final int MOST_VALUES = 3;
    private static final int MOST_LINKS = 6;
    private static final int MOST_TESTS = 20;
    private static final int LAST_FILE = 7;
    private static final int MOST_FAILING_TRIES = 2;
    private static final int MOST_RETRIES = 2;
    private static final int MOST_CASES_OF_A_TEST = 8;
    private static final int MOST_CASES_OF_A_RUN = 40;

    // A CASE ENDS at most every FIXTURE in (1); a TRY MAKES and ENDS each at most once and takes its STEPS.
    private static final int MOST_EVENTS_OF_A_TRY = 2 * MOST_FIXTURES + 1;
    private static final int MOST_EVENTS_OF_A_CASE =
            MOST_FIXTURES + (1 + MOST_RETRIES) * MOST_EVENTS_OF_A_TRY;
    private static final int MOST_EVENTS_OF_A_RUN =
            MOST_CASES_OF_A_RUN * MOST_EVENTS_OF_A_CASE + MOST_FIXTURES;

    private static final int CASE_SCOPE = 0;
    private static final int FILE_SCOPE = 1;
    private static final int SESSION_SCOPE = 2;

    private static final int NEED_TAKEN = 1;
    private static final int NEED_REFUSED = -1;
    private static final int NEED_IS_RING = -2;

    private static final int ORDER_BY_TEST = 0;
    private static final int ORDER_BY_FEWEST_UNMADE = 1;

    private static final int EVENT_MADE = 0;
    private static final int EVENT_MAKING_FAILED = 1;
    private static final int EVENT_ENDED = 2;
    private static final int EVENT_ENDING_FAILED = 3;
    private static final int EVENT_STEPS = 4;

    private static final int PASSED = 1;
    private static final int FAILED = 2;
    private static final int CUT = 3;
    private static final int UNMADE = 4;
    private static final int PASSED_BUT_ENDING_FAILED = 5;

    private final Suite suite;
    private final Runner runner;

    public FixtureOrder() {
        suite = new Suite();
        runner = new Runner();
    }

    public int fixture(int scope, int values, boolean makeFails, boolean endFails) {
        if (!isWithin(scope, CASE_SCOPE, SESSION_SCOPE) || !isWithin(values, 1, MOST_VALUES)) {
            return NONE;
        }
        return suite.addFixture(scope, values, makeFails, endFails);
    }

    public int needs(int fixture, int other) {
        Fixture needing = suite.fixtureAt(fixture);
        Fixture needed = suite.fixtureAt(other);
        if (needing == null || needed == null) {
            return NEED_REFUSED;
        }
        if (!needing.needed.canTake(needed) || needed.scope < needing.scope) {
            return NEED_REFUSED;
        }
        if (needed == needing || needed.dependsOnAny(needing.bit)) {
            return NEED_IS_RING;
        }
        suite.link(needing, needed);
        return NEED_TAKEN;
    }

    public int test(int file) {
        return isWithin(file, 0, LAST_FILE) ? suite.addTest(file) : NONE;
    }

    public boolean uses(int test, int fixture) {
        Test using = suite.testAt(test);
        Fixture used = suite.fixtureAt(fixture);
        if (using == null || used == null || !using.used.canTake(used)) {
            return false;
        }
        using.used.append(used);
        return true;
    }

    public boolean takes(int test, int steps, int limit) {
        Test changed = suite.testAt(test);
        if (changed == null || steps < 0 || limit < 0) {
            return false;
        }
        changed.steps = steps;
        changed.limit = limit;
        return true;
    }

    public boolean fails(int test, int tries, int retries) {
        Test changed = suite.testAt(test);
        if (changed == null
                || !isWithin(tries, 0, MOST_FAILING_TRIES)
                || !isWithin(retries, 0, MOST_RETRIES)) {
            return false;
        }
        changed.failingTries = tries;
        changed.retries = retries;
        return true;
    }

    public int run(int order) {
        if (!isWithin(order, ORDER_BY_TEST, ORDER_BY_FEWEST_UNMADE)) {
            return NONE;
        }
        if (suite.countAllCases() > MOST_CASES_OF_A_RUN) {
            return NONE;
        }
        runner.runAll(suite, order);
        return runner.caseCount;
    }

    public int events() {
        return runner.log.count;
    }

    public int event(int i, int what) {
        return runner.log.read(i, what);
    }

    public int outcome(int i, int what) {
        Case asked = runner.caseAt(i);
        return asked == null ? NONE : asked.read(what);
    }

    public int counted(int fixture, int what) {
        Fixture asked = suite.fixtureAt(fixture);
        if (asked == null || fixture >= runner.fixturesInRun) {
            return NONE;
        }
        return asked.readCount(what);
    }

    public int closure(int test, int i) {
        Test asked = suite.testAt(test);
        if (asked == null) {
            return NONE;
        }
        asked.findClosure();
        Fixture found = asked.closure.at(i);
        return found == null ? NONE : found.number;
    }

    public int cases(int test) {
        Test asked = suite.testAt(test);
        return asked == null ? NONE : asked.countCases();
    }

    private static boolean isWithin(int number, int least, int most) {
        return number >= least && number <= most;
    }

    /** A FIXTURE as it was told, with what the run under way, or the latest one, knows of it. */
    private static final class Fixture {
        final int number;
        final int bit;
        final int scope;
        final int values;
        final boolean makeFails;
        final boolean endFails;
        final Row needed;
        /** The bits of all FIXTURES that this one NEEDS, by way of others too. */
        private int neededBits;

        int value;
        int file;
        private int failedValueBits;
        private int failedFile;

        private int timesMade;
        private int timesEnded;
        private int timesLeaked;

        Fixture(int number, int scope, int values, boolean makeFails, boolean endFails) {
            this.number = number;
            this.bit = 1 << number;
            this.scope = scope;
            this.values = values;
            this.makeFails = makeFails;
            this.endFails = endFails;
            this.needed = new Row(MOST_LINKS);
        }

        boolean dependsOnAny(int bits) {
            return (neededBits & bits) != 0;
        }

        void dependAlsoOn(Fixture other) {
            neededBits |= other.bit | other.neededBits;
        }

        boolean isMadeForAnother(int otherFile) {
            return scope == FILE_SCOPE && file != otherFile;
        }

        void startRun() {
            failedValueBits = 0;
            timesMade = 0;
            timesEnded = 0;
            timesLeaked = 0;
        }

        void noteMade(int newValue, int newFile) {
            value = newValue;
            file = newFile;
            timesMade++;
        }

        void noteEnded() {
            timesEnded++;
            if (endFails) {
                timesLeaked++;
            }
        }

        void rememberFailed(int failedValue, int itsFile) {
            if (scope != CASE_SCOPE) {
                failedValueBits |= 1 << failedValue;
                failedFile = itsFile;
            }
        }

        boolean isRememberedFailed(int itsValue) {
            return (failedValueBits & (1 << itsValue)) != 0;
        }

        void forgetIfOfAnother(int otherFile) {
            if (scope == FILE_SCOPE && failedFile != otherFile) {
                failedValueBits = 0;
            }
        }

        int readCount(int what) {
            switch (what) {
                case 0:
                    return timesMade;
                case 1:
                    return timesEnded;
                case 2:
                    return timesLeaked;
                default:
                    return NONE;
            }
        }
    }

    /** FIXTURES in an order, each at most once. Those below count are never null. */
    private static final class Row {
        final Fixture[] held;
        int count;
        int bits;
        private final int most;

        Row(int most) {
            this.held = new Fixture[MOST_FIXTURES];
            this.most = Math.min(most, MOST_FIXTURES);
        }

        boolean holds(Fixture fixture) {
            return (bits & fixture.bit) != 0;
        }

        boolean canTake(Fixture fixture) {
            return count < most && (bits & fixture.bit) == 0;
        }

        void append(Fixture fixture) {
            if (canTake(fixture)) {
                held[count] = fixture;
                bits |= fixture.bit;
                count++;
            }
        }

        void removeAt(int place) {
            if (place < 0 || place >= count) {
                return;
            }
            bits &= ~held[place].bit;
            for (int i = place; i + 1 < count; i++) {
                held[i] = held[i + 1];
            }
            count--;
        }

        Fixture at(int place) {
            return place >= 0 && place < count ? held[place] : null;
        }

        void clear() {
            count = 0;
            bits = 0;
        }
    }

    /** A TEST as it was told, with its CLOSURE as it was when last asked for. */
    private static final class Test {
        final int number;
        final int file;
        final Row used;
        final Row closure;
        int steps;
        int limit;
        int failingTries;
        int retries;

        Test(int number, int file) {
            this.number = number;
            this.file = file;
            this.used = new Row(MOST_LINKS);
            this.closure = new Row(MOST_FIXTURES);
        }

        void findClosure() {
            closure.clear();
            for (int i = 0; i < used.count; i++) {
                includeBehindItsNeeds(closure, used.held[i], 1);
            }
        }

        // Rings can't be, so no way of NEEDS is longer than there are FIXTURES.
        private static void includeBehindItsNeeds(Row closure, Fixture fixture, int depth) {
            if (depth > MOST_FIXTURES || closure.holds(fixture)) {
                return;
            }
            Row needed = fixture.needed;
            for (int i = 0; i < needed.count; i++) {
                includeBehindItsNeeds(closure, needed.held[i], depth + 1);
            }
            closure.append(fixture);
        }

        int countCases() {
            findClosure();
            int ways = 1;
            for (int i = 0; i < closure.count; i++) {
                ways = Math.min(MOST_CASES_OF_A_TEST, ways * closure.held[i].values);
            }
            return ways;
        }

        int resultOfSteps(int attempt) {
            if (steps > limit) {
                return CUT;
            }
            return attempt < failingTries ? FAILED : PASSED;
        }
    }

    /** All FIXTURES and TESTS. */
    private static final class Suite {
        final Fixture[] fixtures = new Fixture[MOST_FIXTURES];
        int fixtureCount;
        final Test[] tests = new Test[MOST_TESTS];
        int testCount;

        Fixture fixtureAt(int number) {
            return number >= 0 && number < fixtureCount ? fixtures[number] : null;
        }

        Test testAt(int number) {
            return number >= 0 && number < testCount ? tests[number] : null;
        }

        int addFixture(int scope, int values, boolean makeFails, boolean endFails) {
            if (fixtureCount >= MOST_FIXTURES) {
                return NONE;
            }
            fixtures[fixtureCount] = new Fixture(fixtureCount, scope, values, makeFails, endFails);
            return fixtureCount++;
        }

        int addTest(int file) {
            if (testCount >= MOST_TESTS) {
                return NONE;
            }
            tests[testCount] = new Test(testCount, file);
            return testCount++;
        }

        void link(Fixture needing, Fixture needed) {
            needing.needed.append(needed);
            for (int i = 0; i < fixtureCount; i++) {
                if (fixtures[i] == needing || fixtures[i].dependsOnAny(needing.bit)) {
                    fixtures[i].dependAlsoOn(needed);
                }
            }
        }

        void forgetFailuresOfOtherFiles(int file) {
            for (int i = 0; i < fixtureCount; i++) {
                fixtures[i].forgetIfOfAnother(file);
            }
        }

        int countAllCases() {
            int total = 0;
            for (int i = 0; i < testCount; i++) {
                total += tests[i].countCases();
            }
            return total;
        }
    }

    /** A CASE, and how it went. Rows of these are made once and used again by each run. */
    private static final class Case {
        /** Never null once the CASE has begun, and none is looked at before. */
        Test test;
        private int number;
        /** The VALUE that it gives to each FIXTURE, by number; NONE outside its CLOSURE. */
        private final int[] given = new int[MOST_FIXTURES];

        private int outcome;
        private int unmade;
        private int suppressed;
        private int tries;

        void begin(Test itsTest, int itsNumber) {
            test = itsTest;
            number = itsNumber;
            unmade = NONE;
            Arrays.fill(given, NONE);
            Row closure = itsTest.closure;
            int rest = itsNumber;
            for (int i = closure.count - 1; i >= 0; i--) {
                Fixture fixture = closure.held[i];
                int choices = Math.max(1, fixture.values);
                given[fixture.number] = rest % choices;
                rest /= choices;
            }
        }

        int valueFor(Fixture fixture) {
            return given[fixture.number];
        }

        boolean leavesStanding(Fixture made) {
            int wanted = given[made.number];
            return !made.isMadeForAnother(test.file) && (wanted == NONE || wanted == made.value);
        }

        void noteUnmade(Fixture fixture) {
            unmade = fixture.number;
        }

        void finish(int lastResult, int allTries, int endingsFailed, boolean failedAtTheLast) {
            tries = allTries;
            if (lastResult == PASSED && failedAtTheLast) {
                outcome = PASSED_BUT_ENDING_FAILED;
                suppressed = endingsFailed - 1;
            } else {
                outcome = lastResult;
                suppressed = endingsFailed;
            }
        }

        int read(int what) {
            switch (what) {
                case 0:
                    return test.number;
                case 1:
                    return number;
                case 2:
                    return outcome;
                case 3:
                    return unmade;
                case 4:
                    return suppressed;
                case 5:
                    return tries;
                default:
                    return NONE;
            }
        }
    }

    /** The EVENTS of a run, each packed into one number to keep the object small. */
    private static final class Log {
        private static final int SUBJECT_SHIFT = 4;
        private static final int DETAIL_SHIFT = 12;
        private static final int KIND_MASK = 0xF;
        private static final int SUBJECT_MASK = 0xFF;

        private final int[] packed = new int[MOST_EVENTS_OF_A_RUN];
        int count;

        void clear() {
            count = 0;
        }

        void add(int kind, int subject, int detail) {
            if (count < packed.length) {
                packed[count] = kind | subject << SUBJECT_SHIFT | detail << DETAIL_SHIFT;
                count++;
            }
        }

        int read(int place, int what) {
            if (place < 0 || place >= count) {
                return NONE;
            }
            switch (what) {
                case 0:
                    return packed[place] & KIND_MASK;
                case 1:
                    return packed[place] >> SUBJECT_SHIFT & SUBJECT_MASK;
                case 2:
                    return packed[place] >> DETAIL_SHIFT;
                default:
                    return NONE;
            }
        }
    }

    /** Runs a suite and keeps what the latest run left to ask for. */
    private static final class Runner {
        /** FIXTURES that are MADE, in the order in which they were. */
        private final Row made;
        final Log log;
        /** Below caseCount the CASES of the run: those that were taken first, then those that are left. */
        private final Case[] cases;
        int caseCount;
        int fixturesInRun;

        Runner() {
            this.made = new Row(MOST_FIXTURES);
            this.log = new Log();
            this.cases = new Case[MOST_CASES_OF_A_RUN];
            for (int i = 0; i < MOST_CASES_OF_A_RUN; i++) {
                cases[i] = new Case();
            }
        }

        Case caseAt(int place) {
            return place >= 0 && place < caseCount ? cases[place] : null;
        }

        void runAll(Suite suite, int order) {
            startRun(suite);
            listCases(suite);
            for (int place = 0; place < caseCount; place++) {
                if (order == ORDER_BY_FEWEST_UNMADE) {
                    bringForward(placeOfFewestUnmade(place), place);
                }
                takeCase(suite, cases[place], place);
            }
            endMade(made.bits);
        }

        private void startRun(Suite suite) {
            log.clear();
            made.clear();
            fixturesInRun = suite.fixtureCount;
            for (int i = 0; i < fixturesInRun; i++) {
                suite.fixtures[i].startRun();
            }
        }

        private void listCases(Suite suite) {
            caseCount = 0;
            for (int i = 0; i < suite.testCount; i++) {
                Test test = suite.tests[i];
                int ways = test.countCases();
                for (int number = 0; number < ways && caseCount < MOST_CASES_OF_A_RUN; number++) {
                    cases[caseCount].begin(test, number);
                    caseCount++;
                }
            }
        }

        private int placeOfFewestUnmade(int from) {
            int best = from;
            int fewest = MOST_FIXTURES + 1;
            for (int place = from; place < caseCount; place++) {
                int unmade = countUnmade(cases[place]);
                if (unmade < fewest) {
                    fewest = unmade;
                    best = place;
                }
            }
            return best;
        }

        private int countUnmade(Case asked) {
            Row closure = asked.test.closure;
            int unmade = 0;
            for (int i = 0; i < closure.count; i++) {
                Fixture fixture = closure.held[i];
                if (!made.holds(fixture) || !asked.leavesStanding(fixture)) {
                    unmade++;
                }
            }
            return unmade;
        }

        // The CASES between are shifted, not swapped: those that are left stay in their order.
        private void bringForward(int from, int to) {
            Case chosen = cases[from];
            for (int i = from; i > to; i--) {
                cases[i] = cases[i - 1];
            }
            cases[to] = chosen;
        }

        private void takeCase(Suite suite, Case taken, int place) {
            int failedBefore = endMade(bitsThatCannotStay(taken));
            suite.forgetFailuresOfOtherFiles(taken.test.file);
            int failedInAll = failedBefore;
            int failedInLast = 0;
            int result = UNMADE;
            int tries = 0;
            for (int attempt = 0; attempt <= taken.test.retries; attempt++) {
                result = tryCase(taken, place, attempt);
                failedInLast = endMade(bitsOfCaseScope());
                failedInAll += failedInLast;
                tries++;
                if (result != FAILED && result != CUT) {
                    break;
                }
            }
            taken.finish(result, tries, failedInAll, failedBefore + failedInLast > 0);
        }

        private int bitsThatCannotStay(Case next) {
            int leaving = 0;
            for (int i = 0; i < made.count; i++) {
                if (!next.leavesStanding(made.held[i])) {
                    leaving |= made.held[i].bit;
                }
            }
            int dependent = 0;
            for (int i = 0; i < made.count; i++) {
                if (made.held[i].dependsOnAny(leaving)) {
                    dependent |= made.held[i].bit;
                }
            }
            return leaving | dependent;
        }

        private int bitsOfCaseScope() {
            int found = 0;
            for (int i = 0; i < made.count; i++) {
                if (made.held[i].scope == CASE_SCOPE) {
                    found |= made.held[i].bit;
                }
            }
            return found;
        }

        private int tryCase(Case taken, int place, int attempt) {
            Row closure = taken.test.closure;
            for (int i = 0; i < closure.count; i++) {
                Fixture fixture = closure.held[i];
                if (!made.holds(fixture) && !make(fixture, taken)) {
                    taken.noteUnmade(fixture);
                    return UNMADE;
                }
            }
            log.add(EVENT_STEPS, place, attempt);
            return taken.test.resultOfSteps(attempt);
        }

        private boolean make(Fixture fixture, Case wanting) {
            int value = wanting.valueFor(fixture);
            int file = wanting.test.file;
            if (fixture.isRememberedFailed(value)) {
                return false;
            }
            if (fixture.makeFails) {
                fixture.rememberFailed(value, file);
                log.add(EVENT_MAKING_FAILED, fixture.number, value);
                return false;
            }
            fixture.noteMade(value, file);
            made.append(fixture);
            log.add(EVENT_MADE, fixture.number, value);
            return true;
        }

        /** ENDS those of the bits, in reverse order of MADE; answers how many ENDINGS failed. */
        private int endMade(int bits) {
            int failed = 0;
            for (int i = made.count - 1; i >= 0; i--) {
                Fixture fixture = made.held[i];
                if ((bits & fixture.bit) != 0) {
                    made.removeAt(i);
                    fixture.noteEnded();
                    log.add(fixture.endFails ? EVENT_ENDING_FAILED : EVENT_ENDED, fixture.number, fixture.value);
                    failed += fixture.endFails ? 1 : 0;
                }
            }
            return failed;
        }
    }
}
