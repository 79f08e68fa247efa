import java.util.ArrayList;
import java.util.List;
import java.util.Map;
import java.util.Random;
import java.util.TreeMap;

/**
 * What a call must leave alone: seeded runs, and after each call all that can be seen is compared with what was seen
 * before it. The looking takes calls, checkouts among them, so each look is at a new object with the same run.
 */
final class LedgerTest {
    private static final int RUNS = 400;
    private static final int STEPS = 80;
    /** With larger trees the looking alone would take more than 512 calls. */
    private static final int NODES = 9;
    private static final int NONE = GroveMerge.NONE;
    private static final String START = "insert insert insert insert insert commit";
    /** Calls that follow one another, since a merge says little without two lines of changes. */
    private static final String[] PLANS = {
        "insert", "delete", "move", "relabel", "commit", "checkout", "merge", "checkout merge commit", "checkout merge",
        "checkout merge move merge", "checkout relabel relabel move commit merge merge",
        "checkout delete relabel commit merge merge", "checkout move relabel commit merge merge", "checkout insert commit",
        "base conflict", "about child", "nodes count", "find alike", "distance state above",
    };

    record Step(String call, int a, int b, int c) {
        int on(GroveMerge x) {
            switch (call) {
                case "insert":
                    return x.insert(a, b, c);
                case "delete":
                    return x.delete(a);
                case "move":
                    x.move(a, b, c);
                    return 0;
                case "relabel":
                    x.relabel(a, b);
                    return 0;
                case "commit":
                    return x.commit();
                case "checkout":
                    x.checkout(a);
                    return 0;
                case "merge":
                    return x.merge(a);
                default:
                    return look(x);
            }
        }

        private int look(GroveMerge x) {
            return switch (call) {
                case "base" -> x.base(a, b);
                case "conflict" -> x.conflict(a);
                case "about" -> x.about(a, b);
                case "child" -> x.child(a, b);
                case "nodes" -> x.nodes(a > 2);
                case "count" -> x.count(a * 97 + b);
                case "find" -> x.find(26, a);
                case "alike" -> x.alike(a);
                case "distance" -> x.distance(a, b);
                case "state" -> x.state(a);
                default -> x.above(a, b);
            };
        }

        boolean onlyLooks() {
            return !List.of("insert", "delete", "move", "relabel", "commit", "checkout", "merge").contains(call);
        }
    }

    record Commit(String tree, int first, int second) {
    }

    record Seen(String tree, int made, int head, int taken, List<Integer> conflicts, List<Commit> commits) {
        boolean isClean() {
            return taken == NONE && tree.equals(commits.get(head).tree);
        }
    }

    private final Check check;
    private final Random random;
    private final Map<String, Integer> outcomes;
    private final List<Step> run = new ArrayList<>();
    private final List<String> planned = new ArrayList<>(List.of(START.split(" ")));
    private final int seed;

    private LedgerTest(Check check, int seed, Map<String, Integer> outcomes) {
        this.check = check;
        this.random = new Random(seed);
        this.outcomes = outcomes;
        this.seed = seed;
    }

    public static void main(String[] args) {
        Check check = new Check("LedgerTest");
        Map<String, Integer> outcomes = new TreeMap<>();
        for (int seed = 0; seed < RUNS; seed++) {
            new LedgerTest(check, seed, outcomes).go();
        }
        for (String outcome : List.of("insert", "delete", "move", "relabel", "commit", "checkout", "a merge",
                "a merge with conflicts", "merge throws.IllegalStateException", "merge throws.NoSuchElementException",
                "commit throws.UnsupportedOperationException", "a look", "a look that throws")) {
            check.same(outcome + " came up", outcomes.getOrDefault(outcome, 0) > 50, true);
        }
        check.end();
    }

    private void go() {
        Seen before = see();
        for (int i = 0; i < STEPS; i++) {
            Step step = next(before);
            GroveMerge x = replay();
            String answer = Check.answer(() -> step.on(x));
            run.add(step);
            Seen after = see();
            String what = "run " + seed + ", " + step;
            judge(what, step, answer, before, after);
            before = after;
        }
    }

    private Step next(Seen now) {
        if (planned.isEmpty()) {
            planned.addAll(List.of(PLANS[random.nextInt(PLANS.length)].split(" ")));
        }
        String call = planned.remove(0);
        return switch (call) {
            case "insert" -> now.made < NODES ? new Step(call, parent(now), number(3) / 2, number(6))
                    : new Step("relabel", node(now), number(6), 0);
            case "delete" -> new Step(call, node(now), 0, 0);
            case "move" -> new Step(call, node(now), parent(now), number(3) / 2);
            case "relabel" -> new Step(call, node(now), number(6), 0);
            case "checkout", "merge" -> new Step(call, commit(now), 0, 0);
            default -> new Step(call, number(4), number(4), 0);
        };
    }

    /** Seldom a number that fits nothing. */
    private int number(int bound) {
        return random.nextInt(16) == 0 ? random.nextInt(40) - 10 : random.nextInt(bound);
    }

    /** Mostly not the first, which has the root alone. */
    private int commit(Seen now) {
        int commit = number(now.commits.size());
        return commit == 0 && random.nextInt(4) != 0 ? number(now.commits.size()) : commit;
    }

    /** Mostly one that is there and not the root. */
    private int node(Seen now) {
        List<Integer> nodes = new ArrayList<>();
        for (String piece : now.tree.split("[( ]")) {
            nodes.add(Integer.parseInt(piece.substring(0, piece.indexOf(':'))));
        }
        int from = nodes.size() > 1 && random.nextInt(4) != 0 ? 1 : 0;
        return random.nextInt(16) == 0 ? number(NODES) : nodes.get(from + random.nextInt(nodes.size() - from));
    }

    /** Often the root, so that moves find a parent that is not below what is moved. */
    private int parent(Seen now) {
        return random.nextInt(3) == 0 ? 0 : node(now);
    }

    private GroveMerge replay() {
        GroveMerge x = new GroveMerge();
        for (Step step : run) {
            Check.answer(() -> step.on(x));
        }
        return x;
    }

    private Seen see() {
        GroveMerge x = replay();
        String tree = Groves.tree(x);
        int head = x.state(1);
        int taken = x.state(2);
        List<Integer> conflicts = new ArrayList<>();
        while (Check.answer(() -> x.conflict(conflicts.size())).matches("\\d+")) {
            conflicts.add(x.conflict(conflicts.size()));
        }
        List<Commit> commits = new ArrayList<>();
        int size = x.state(0);
        for (int i = 0; i < size; i++) {
            x.checkout(i);
            commits.add(new Commit(Groves.tree(x), x.above(i, 0), x.above(i, 1)));
        }
        return new Seen(tree, x.nodes(true), head, taken, conflicts, commits);
    }

    private void came(String outcome) {
        outcomes.merge(outcome, 1, Integer::sum);
    }

    private void judge(String what, Step step, String answer, Seen before, Seen after) {
        boolean thrown = answer.startsWith("throws.");
        if (step.call.equals("merge")) {
            judgeRefusal(what, step, answer, before);
        }
        if (thrown || step.onlyLooks()) {
            came(!step.onlyLooks() ? step.call + " " + answer : thrown ? "a look that throws" : "a look");
            check.same(what + ", " + answer + ", leaves all", after, before);
            return;
        }
        switch (step.call) {
            case "commit" -> judgeCommit(what, Integer.parseInt(answer), before, after);
            case "checkout" -> judgeCheckout(what, step.a, before, after);
            case "merge" -> judgeMerge(what, step.a, Integer.parseInt(answer), before, after);
            default -> judgeChange(what, step.call, Integer.parseInt(answer), before, after);
        }
    }

    /** Only the tree is another one then, and its size by as many as the call says. */
    private void judgeChange(String what, String call, int answer, Seen before, Seen after) {
        came(call);
        boolean grows = call.equals("insert");
        int made = before.made + (grows ? 1 : 0);
        int more = grows ? 1 : call.equals("delete") ? -answer : 0;
        check.same(what + ", but the tree", after, new Seen(after.tree, made, before.head, before.taken, before.conflicts,
                before.commits));
        check.same(what + ", how many nodes", nodesIn(after.tree), nodesIn(before.tree) + more);
        if (grows) {
            check.same(what + ", its number", answer, before.made);
        }
    }

    private static long nodesIn(String tree) {
        return tree.chars().filter(c -> c == ':').count();
    }

    private void judgeCommit(String what, int answer, Seen before, Seen after) {
        came("commit");
        List<Commit> commits = new ArrayList<>(before.commits);
        commits.add(new Commit(before.tree, before.head, before.taken));
        check.same(what + ", its number", answer, before.commits.size());
        check.same(what, after, new Seen(before.tree, before.made, answer, NONE, before.conflicts, commits));
    }

    private void judgeCheckout(String what, int commit, Seen before, Seen after) {
        came("checkout");
        String tree = before.commits.get(commit).tree;
        check.same(what, after, new Seen(tree, before.made, commit, NONE, before.conflicts, before.commits));
    }

    private void judgeRefusal(String what, Step step, String answer, Seen before) {
        String due = step.a < 0 || step.a >= before.commits.size() ? "throws.NoSuchElementException"
                : before.isClean() ? "a number" : "throws.IllegalStateException";
        check.same(what + ", whether it throws", answer.startsWith("throws.") ? answer : "a number", due);
    }

    private void judgeMerge(String what, int commit, int answer, Seen before, Seen after) {
        came(answer == 0 ? "a merge" : "a merge with conflicts");
        check.same(what + ", how many conflicts are told", after.conflicts.size(), answer);
        String tree = answer == 0 ? after.tree : before.tree;
        check.same(what, after, new Seen(tree, before.made, before.head, answer == 0 ? commit : NONE, after.conflicts,
                before.commits));
        for (int i = 0; i < answer; i++) {
            int node = after.conflicts.get(i) % 32;
            check.same(what + ", conflicts by the numbers", i == 0 || after.conflicts.get(i - 1) % 32 < node, true);
            check.same(what + ", a node and its kind", node < before.made && after.conflicts.get(i) / 32 <= 5, true);
        }
    }
}
