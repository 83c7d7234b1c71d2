import java.util.Random;

/** Runs of calls drawn from fixed seeds, each answer compared with that of the model. */
public final class ModelTest {
    private static final int OBJECTS = 6000;
    private static final Check CHECK = new Check();

    private final FixtureOrder x = new FixtureOrder();
    private final Model model = new Model();
    private final Random random;
    private final int seed;
    private int fixtures = 0;
    private int tests = 0;
    private int calls = 0;

    private ModelTest(int seed) {
        this.seed = seed;
        this.random = new Random(seed);
    }

    public static void main(String[] args) {
        for (int seed = 0; seed < OBJECTS && CHECK.isClean(); seed++) {
            new ModelTest(seed).compare();
        }
        CHECK.finish();
    }

    private void compare() {
        int most = 20 + random.nextInt(100);
        int wrongRate = random.nextInt(12);
        while (calls < most) {
            declare(wrongRate);
            if (random.nextInt(25) == 0) {
                int order = odd(wrongRate) ? random.nextInt(5) - 2 : random.nextInt(2);
                due("run(" + order + ")", model.run(order), x.run(order));
                ask(60);
            }
        }
        for (int order = 0; order < 2; order++) {
            due("run(" + order + ")", model.run(order), x.run(order));
            ask(calls + 150);
        }
    }

    private boolean odd(int wrongRate) {
        return random.nextInt(100) < wrongRate;
    }

    /** A number below a bound, or now and then one that is none such. */
    private int below(int bound, int wrongRate) {
        if (odd(wrongRate) || bound == 0) {
            int[] wrong = {-1, bound, bound + 1, Integer.MIN_VALUE, Integer.MAX_VALUE};
            return wrong[random.nextInt(wrong.length)];
        }
        return random.nextInt(bound);
    }

    private void declare(int wrongRate) {
        int kind = random.nextInt(14);
        if (kind < 2) {
            declareFixture(wrongRate);
        } else if (kind < 5) {
            int one = below(fixtures, wrongRate);
            int other = below(fixtures, wrongRate);
            due("needs(" + one + ", " + other + ")", model.needs(one, other), x.needs(one, other));
        } else if (kind < 7) {
            int file = below(random.nextBoolean() ? 2 : 8, wrongRate);
            int want = model.test(file);
            due("test(" + file + ")", want, x.test(file));
            tests += want >= 0 ? 1 : 0;
        } else if (kind < 11) {
            int test = below(tests, wrongRate);
            int fixture = below(fixtures, wrongRate);
            CHECK.due(told("uses(" + test + ", " + fixture + ")"), model.uses(test, fixture), x.uses(test, fixture));
            calls++;
        } else if (kind < 12) {
            int test = below(tests, wrongRate);
            int steps = random.nextInt(6) - (odd(wrongRate) ? 3 : 0);
            int limit = 2 + random.nextInt(4) - (odd(wrongRate) ? 4 : 0);
            String call = "takes(" + test + ", " + steps + ", " + limit + ")";
            CHECK.due(told(call), model.takes(test, steps, limit), x.takes(test, steps, limit));
            calls++;
        } else {
            int test = below(tests, wrongRate);
            int tries = below(3, wrongRate);
            int retries = below(3, wrongRate);
            String call = "fails(" + test + ", " + tries + ", " + retries + ")";
            CHECK.due(told(call), model.fails(test, tries, retries), x.fails(test, tries, retries));
            calls++;
        }
    }

    private void declareFixture(int wrongRate) {
        int scope = below(3, wrongRate);
        int values = odd(wrongRate) ? random.nextInt(8) - 2 : random.nextInt(3) == 0 ? 1 + random.nextInt(3) : 1;
        boolean makeFails = random.nextInt(6) == 0;
        boolean endFails = random.nextInt(3) == 0;
        String call = "fixture(" + scope + ", " + values + ", " + makeFails + ", " + endFails + ")";
        int want = model.fixture(scope, values, makeFails, endFails);
        due(call, want, x.fixture(scope, values, makeFails, endFails));
        fixtures += want >= 0 ? 1 : 0;
    }

    /** Asks for all if that stays within the calls an object is good for, else for some of it. */
    private void ask(int callsUpTo) {
        due("events()", model.events(), x.events());
        while (calls < callsUpTo) {
            int what = random.nextInt(7) - (random.nextInt(10) == 0 ? 2 : 0);
            int place = random.nextInt(model.events() + 2) - 1;
            due("event(" + place + ", " + what + ")", model.event(place, what), x.event(place, what));
            int at = random.nextInt(42) - 1;
            due("outcome(" + at + ", " + what + ")", model.outcome(at, what), x.outcome(at, what));
            int fixture = random.nextInt(14) - 1;
            int count = random.nextInt(5) - 1;
            due("counted(" + fixture + ", " + count + ")", model.counted(fixture, count), x.counted(fixture, count));
            int test = random.nextInt(22) - 1;
            int i = random.nextInt(14) - 1;
            due("closure(" + test + ", " + i + ")", model.closure(test, i), x.closure(test, i));
            due("cases(" + test + ")", model.cases(test), x.cases(test));
            askFar();
        }
    }

    /** Questions with numbers that are far outside, of which none may be answered but by NONE. */
    private void askFar() {
        int[] far = {Integer.MIN_VALUE, Integer.MIN_VALUE + 1, -2, 3493, Integer.MAX_VALUE - 1, Integer.MAX_VALUE};
        int one = far[random.nextInt(far.length)];
        int other = random.nextBoolean() ? far[random.nextInt(far.length)] : random.nextInt(3);
        int none = FixtureOrder.NONE;
        switch (random.nextInt(9)) {
            case 0 -> due("event(" + one + ", " + other + ")", none, x.event(one, other));
            case 1 -> due("event(" + other + ", " + one + ")", none, x.event(other, one));
            case 2 -> due("outcome(" + one + ", " + other + ")", none, x.outcome(one, other));
            case 3 -> due("outcome(" + other + ", " + one + ")", none, x.outcome(other, one));
            case 4 -> due("counted(" + one + ", " + other + ")", none, x.counted(one, other));
            case 5 -> due("counted(" + other + ", " + one + ")", none, x.counted(other, one));
            case 6 -> due("closure(" + one + ", " + other + ")", none, x.closure(one, other));
            case 7 -> due("closure(" + other + ", " + one + ")", none, x.closure(other, one));
            default -> due("cases(" + one + ")", none, x.cases(one));
        }
    }

    private void due(String call, int want, int got) {
        CHECK.due(told(call), want, got);
        calls++;
    }

    private String told(String call) {
        return "seed " + seed + ", call " + calls + ": " + call;
    }
}
