import java.util.ArrayList;
import java.util.HashMap;
import java.util.HashSet;
import java.util.LinkedHashSet;
import java.util.List;
import java.util.Map;
import java.util.Set;

/** The document once more, as plainly as the Java library allows, to compare answers with. */
final class Model {
    private record Made(int fixture, int value, int file) {
    }

    private record Failed(int fixture, int value, int file) {
    }

    private record Todo(int test, int number, Map<Integer, Integer> values) {
    }

    private static final class Fix {
        int scope;
        int values;
        boolean makeFails;
        boolean endFails;
        final List<Integer> needs = new ArrayList<>();
    }

    private static final class Tst {
        int file;
        int steps = 0;
        int limit = 0;
        int tries = 0;
        int retries = 0;
        final List<Integer> uses = new ArrayList<>();
    }

    private final List<Fix> fixtures = new ArrayList<>();
    private final List<Tst> tests = new ArrayList<>();

    private List<int[]> events = new ArrayList<>();
    private List<int[]> outcomes = new ArrayList<>();
    private int fixturesThen = 0;

    private List<Made> made;
    private Set<Failed> remembered;

    int fixture(int scope, int values, boolean makeFails, boolean endFails) {
        if (fixtures.size() == 12 || scope < 0 || scope > 2 || values < 1 || values > 3) {
            return -1;
        }
        Fix f = new Fix();
        f.scope = scope;
        f.values = values;
        f.makeFails = makeFails;
        f.endFails = endFails;
        fixtures.add(f);
        return fixtures.size() - 1;
    }

    int needs(int fixture, int other) {
        if (noFixture(fixture) || noFixture(other)) {
            return -1;
        }
        Fix f = fixtures.get(fixture);
        if (f.needs.contains(other) || f.needs.size() == 6 || fixtures.get(other).scope < f.scope) {
            return -1;
        }
        if (allBelow(other).contains(fixture)) {
            return -2;
        }
        f.needs.add(other);
        return 1;
    }

    int test(int file) {
        if (tests.size() == 20 || file < 0 || file > 7) {
            return -1;
        }
        Tst t = new Tst();
        t.file = file;
        tests.add(t);
        return tests.size() - 1;
    }

    boolean uses(int test, int fixture) {
        if (noTest(test) || noFixture(fixture)) {
            return false;
        }
        List<Integer> uses = tests.get(test).uses;
        return !uses.contains(fixture) && uses.size() < 6 && uses.add(fixture);
    }

    boolean takes(int test, int steps, int limit) {
        if (noTest(test) || steps < 0 || limit < 0) {
            return false;
        }
        tests.get(test).steps = steps;
        tests.get(test).limit = limit;
        return true;
    }

    boolean fails(int test, int tries, int retries) {
        if (noTest(test) || tries < 0 || tries > 2 || retries < 0 || retries > 2) {
            return false;
        }
        tests.get(test).tries = tries;
        tests.get(test).retries = retries;
        return true;
    }

    int run(int order) {
        if (order != 0 && order != 1) {
            return -1;
        }
        List<Todo> left = new ArrayList<>();
        for (int t = 0; t < tests.size(); t++) {
            left.addAll(casesOf(t));
        }
        int total = left.size();
        if (total > 40) {
            return -1;
        }
        events = new ArrayList<>();
        outcomes = new ArrayList<>();
        made = new ArrayList<>();
        remembered = new HashSet<>();
        fixturesThen = fixtures.size();
        while (!left.isEmpty()) {
            Todo next = order == 0 ? left.get(0) : fewest(left);
            left.remove(next);
            take(next);
        }
        endThese(new ArrayList<>(made));
        return total;
    }

    int events() {
        return events.size();
    }

    int event(int i, int what) {
        return cell(events, i, what);
    }

    int outcome(int i, int what) {
        return cell(outcomes, i, what);
    }

    int counted(int fixture, int what) {
        if (fixture < 0 || fixture >= fixturesThen || what < 0 || what > 2) {
            return -1;
        }
        int count = 0;
        for (int[] e : events) {
            boolean counts = what == 0 ? e[0] == 0 : what == 1 ? e[0] == 2 || e[0] == 3 : e[0] == 3;
            if (counts && e[1] == fixture) {
                count++;
            }
        }
        return count;
    }

    int closure(int test, int i) {
        if (noTest(test)) {
            return -1;
        }
        List<Integer> c = closureOf(test);
        return i < 0 || i >= c.size() ? -1 : c.get(i);
    }

    int cases(int test) {
        return noTest(test) ? -1 : casesOf(test).size();
    }

    private boolean noFixture(int f) {
        return f < 0 || f >= fixtures.size();
    }

    private boolean noTest(int t) {
        return t < 0 || t >= tests.size();
    }

    private static int cell(List<int[]> rows, int i, int what) {
        if (i < 0 || i >= rows.size() || what < 0 || what >= rows.get(i).length) {
            return -1;
        }
        return rows.get(i)[what];
    }

    /** A FIXTURE and all that it NEEDS by way of others, in CLOSURE order. */
    private Set<Integer> allBelow(int fixture) {
        Set<Integer> found = new LinkedHashSet<>();
        for (int other : fixtures.get(fixture).needs) {
            found.addAll(allBelow(other));
        }
        found.add(fixture);
        return found;
    }

    private List<Integer> closureOf(int test) {
        Set<Integer> found = new LinkedHashSet<>();
        for (int f : tests.get(test).uses) {
            found.addAll(allBelow(f));
        }
        return new ArrayList<>(found);
    }

    private List<Todo> casesOf(int test) {
        List<Map<Integer, Integer>> ways = new ArrayList<>();
        fillWays(closureOf(test), 0, new HashMap<>(), ways);
        List<Todo> cases = new ArrayList<>();
        for (Map<Integer, Integer> way : ways) {
            cases.add(new Todo(test, cases.size(), way));
        }
        return cases;
    }

    private void fillWays(List<Integer> closure, int at, Map<Integer, Integer> sofar, List<Map<Integer, Integer>> ways) {
        if (ways.size() == 8) {
            return;
        }
        if (at == closure.size()) {
            ways.add(new HashMap<>(sofar));
            return;
        }
        for (int value = 0; value < fixtures.get(closure.get(at)).values; value++) {
            sofar.put(closure.get(at), value);
            fillWays(closure, at + 1, sofar, ways);
        }
        sofar.remove(closure.get(at));
    }

    private Made madeOf(int fixture) {
        for (Made m : made) {
            if (m.fixture == fixture) {
                return m;
            }
        }
        return null;
    }

    private Todo fewest(List<Todo> left) {
        Todo best = null;
        int least = 99;
        for (Todo todo : left) {
            int count = 0;
            for (int f : todo.values.keySet()) {
                Made m = madeOf(f);
                boolean fits = m != null && m.value == todo.values.get(f)
                        && (fixtures.get(f).scope != 1 || m.file == tests.get(todo.test).file);
                count += fits ? 0 : 1;
            }
            if (count < least) {
                least = count;
                best = todo;
            }
        }
        return best;
    }

    private void take(Todo todo) {
        Tst t = tests.get(todo.test);
        int place = outcomes.size();
        Set<Integer> ending = new HashSet<>();
        for (Made m : made) {
            boolean ofOtherFile = fixtures.get(m.fixture).scope == 1 && m.file != t.file;
            boolean ofOtherValue = todo.values.containsKey(m.fixture) && todo.values.get(m.fixture) != m.value;
            if (ofOtherFile || ofOtherValue) {
                ending.add(m.fixture);
            }
        }
        List<Made> leaving = new ArrayList<>();
        for (Made m : made) {
            Set<Integer> below = new HashSet<>(allBelow(m.fixture));
            below.retainAll(ending);
            if (!below.isEmpty()) {
                leaving.add(m);
            }
        }
        int failedInOne = endThese(leaving);
        remembered.removeIf(r -> fixtures.get(r.fixture).scope == 1 && r.file != t.file);

        int all = failedInOne;
        int attempt = 0;
        while (true) {
            int unmade = makeAll(todo, t.file);
            int result = 4;
            if (unmade == -1) {
                events.add(new int[] {4, place, attempt});
                result = t.steps > t.limit ? 3 : attempt < t.tries ? 2 : 1;
            }
            List<Made> ofCase = new ArrayList<>(made);
            ofCase.removeIf(m -> fixtures.get(m.fixture).scope != 0);
            int failedInThree = endThese(ofCase);
            all += failedInThree;
            attempt++;
            if ((result == 2 || result == 3) && attempt < 1 + t.retries) {
                continue;
            }
            boolean five = result == 1 && (failedInOne > 0 || failedInThree > 0);
            outcomes.add(new int[] {todo.test, todo.number, five ? 5 : result, unmade, five ? all - 1 : all, attempt});
            return;
        }
    }

    private int makeAll(Todo todo, int file) {
        for (int f : closureOf(todo.test)) {
            if (madeOf(f) != null) {
                continue;
            }
            int value = todo.values.get(f);
            if (remembered.stream().anyMatch(r -> r.fixture == f && r.value == value)) {
                return f;
            }
            if (fixtures.get(f).makeFails) {
                events.add(new int[] {1, f, value});
                if (fixtures.get(f).scope != 0) {
                    remembered.add(new Failed(f, value, file));
                }
                return f;
            }
            events.add(new int[] {0, f, value});
            made.add(new Made(f, value, file));
        }
        return -1;
    }

    private int endThese(List<Made> leaving) {
        int failed = 0;
        for (int i = leaving.size() - 1; i >= 0; i--) {
            Made m = leaving.get(i);
            boolean fails = fixtures.get(m.fixture).endFails;
            events.add(new int[] {fails ? 3 : 2, m.fixture, m.value});
            made.remove(m);
            failed += fails ? 1 : 0;
        }
        return failed;
    }
}
