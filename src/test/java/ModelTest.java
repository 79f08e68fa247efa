import java.util.Arrays;
import java.util.Map;
import java.util.Random;
import java.util.TreeMap;

/** Long runs of mixed calls, each answered as the model answers it. The seeds are fixed. */
final class ModelTest {
    private static final int RUNS = 4000;
    private static final int CALLS = 512;
    private static final String[] CHANGES = {"insert", "insert", "insert", "delete", "move", "move", "relabel"};
    private static final String[] STEPS = {"commit", "checkout", "branch", "branch", "branch", "merge", "merge", "merge", "merge", "merge"};
    private static final String[] READS = {"base", "conflict", "about", "child", "nodes", "count", "find", "find",
        "alike", "distance", "state", "above"};
    private static final int ALL_BELOW = 2 + 4 * 6;
    private static final int[] WILD = {Integer.MIN_VALUE, -1000, -2, -1, 6, 12, 23, 24, 25, 31, 32, 64, Integer.MAX_VALUE};

    private final Check check;
    private final Random random;
    private final Map<String, Integer> outcomes;
    private final boolean mergesMuch;
    private final int changesOfTen;
    private final int stepsOfTen;
    private final String run;
    private final GroveMerge real = new GroveMerge();
    private final Model model = new Model();
    private int calls = 0;

    private ModelTest(Check check, int seed, Map<String, Integer> outcomes) {
        this.check = check;
        this.random = new Random(seed);
        this.outcomes = outcomes;
        this.mergesMuch = seed % 2 == 1;
        this.changesOfTen = mergesMuch ? 1 : 2 + seed % 5;
        this.stepsOfTen = mergesMuch ? 8 : 1;
        this.run = "run " + seed;
    }

    public static void main(String[] args) {
        Check check = new Check("ModelTest");
        Map<String, Integer> outcomes = new TreeMap<>();
        for (int seed = 0; seed < RUNS; seed++) {
            new ModelTest(check, seed, outcomes).go();
        }
        checkReach(check, outcomes);
        check.end();
    }

    /** Runs that never come to a kind of outcome would say nothing about it. */
    private static void checkReach(Check check, Map<String, Integer> outcomes) {
        for (int kind = 1; kind <= 5; kind++) {
            check.same("conflicts of kind " + kind + " came up", outcomes.getOrDefault("kind " + kind, 0) > 50, true);
        }
        for (String outcome : Arrays.asList("merge 0", "merge throws.IllegalStateException",
                "insert throws.UnsupportedOperationException", "commit throws.UnsupportedOperationException",
                "move throws.IllegalArgumentException", "move throws.IndexOutOfBoundsException")) {
            check.same(outcome + " came up", outcomes.getOrDefault(outcome, 0) > 50, true);
        }
    }

    private void go() {
        grow(random.nextInt(mergesMuch ? 8 : 20));
        while (calls < CALLS) {
            int dice = random.nextInt(10);
            String[] kind = dice < changesOfTen ? CHANGES : dice < changesOfTen + stepsOfTen ? STEPS : READS;
            play(kind[random.nextInt(kind.length)]);
        }
    }

    /** Without a tree of some size at the start most runs would come to nothing. */
    private void grow(int inserts) {
        for (int i = 0; i < inserts; i++) {
            play("insert");
        }
        play("commit");
    }

    private int small(int bound) {
        return random.nextInt(20) == 0 ? WILD[random.nextInt(WILD.length)] : random.nextInt(Math.max(bound, 1));
    }

    /** Mostly one of the working tree, the root seldom, since it can't be moved or deleted. */
    private int node() {
        int below = model.count(ALL_BELOW);
        if (below == 0 || random.nextInt(8) == 0) {
            return small(model.nodes(true));
        }
        return model.find(ALL_BELOW, random.nextInt(below));
    }

    /** Mostly not commit 0, which has the root alone. */
    private int commit() {
        int commits = model.state(0);
        return commits > 1 && random.nextInt(8) != 0 ? 1 + random.nextInt(commits - 1) : small(commits);
    }

    private int parent() {
        return random.nextInt(4) == 0 ? 0 : node();
    }

    private int place(int parent) {
        boolean there = Check.answer(() -> model.about(parent, 2)).matches("\\d+");
        return small(there ? model.about(parent, 2) + 1 : 3);
    }

    private int path() {
        int path = random.nextInt(8) == 0 ? random.nextInt() : 0;
        int steps = random.nextInt(4);
        for (int i = 0; i < steps; i++) {
            int label = random.nextBoolean() ? 6 + random.nextInt(2) : random.nextInt(6);
            path |= 1 + random.nextInt(3) + 4 * label << 5 * i;
        }
        return path;
    }

    private void compare(String what, Check.Call got, Check.Call due) {
        if (calls >= CALLS) {
            return;
        }
        calls++;
        String answer = Check.answer(got);
        check.same(run + ", call " + calls + ", " + what, answer, Check.answer(due));
        String name = what.substring(0, what.indexOf('('));
        outcomes.merge(name + " " + answer, 1, Integer::sum);
        if (name.equals("conflict") && !answer.startsWith("throws")) {
            outcomes.merge("kind " + Integer.parseInt(answer) / 32, 1, Integer::sum);
        }
    }

    private void compareActs(String what, Check.Act got, Check.Act due) {
        compare(what, asCall(got), asCall(due));
    }

    private static Check.Call asCall(Check.Act act) {
        return () -> {
            act.run();
            return 0;
        };
    }

    private void play(String call) {
        switch (call) {
            case "insert", "delete", "move", "relabel" -> playChange(call);
            case "commit", "checkout", "branch", "merge" -> playStep(call);
            default -> playRead(call);
        }
    }

    private void playChange(String call) {
        int node = node();
        int parent = parent();
        int place = place(parent);
        int label = small(random.nextBoolean() ? 2 : 6);
        switch (call) {
            case "insert" -> compare("insert(" + parent + ", " + place + ", " + label + ")",
                    () -> real.insert(parent, place, label), () -> model.insert(parent, place, label));
            case "delete" -> compare("delete(" + node + ")", () -> real.delete(node), () -> model.delete(node));
            case "move" -> compareActs("move(" + node + ", " + parent + ", " + place + ")",
                    () -> real.move(node, parent, place), () -> model.move(node, parent, place));
            default -> compareActs("relabel(" + node + ", " + label + ")",
                    () -> real.relabel(node, label), () -> model.relabel(node, label));
        }
    }

    private void playStep(String call) {
        int commit = commit();
        switch (call) {
            case "commit" -> compare("commit()", real::commit, model::commit);
            case "checkout" -> compareActs("checkout(" + commit + ")",
                    () -> real.checkout(commit), () -> model.checkout(commit));
            case "branch" -> playBranch(commit);
            default -> playMerge(commit);
        }
    }

    /** A line of its own with few changes, so that merges find something in common. */
    private void playBranch(int commit) {
        compareActs("checkout(" + commit + ")", () -> real.checkout(commit), () -> model.checkout(commit));
        int changes = 1 + random.nextInt(4);
        for (int i = 0; i < changes; i++) {
            play(CHANGES[random.nextInt(CHANGES.length)]);
        }
        play("commit");
    }

    /** Often from a clean head, since a merge of a changed tree only throws. */
    private void playMerge(int commit) {
        if (random.nextInt(4) != 0) {
            int head = commit();
            compareActs("checkout(" + head + ")", () -> real.checkout(head), () -> model.checkout(head));
        }
        compare("merge(" + commit + ")", () -> real.merge(commit), () -> model.merge(commit));
        int k = random.nextInt(3) == 0 ? random.nextInt(4) : 0;
        compare("conflict(" + k + ")", () -> real.conflict(k), () -> model.conflict(k));
        if (random.nextInt(4) == 0) {
            readAll();
        }
    }

    /** The whole working tree: the number in the order, the parent and the label tell it. */
    private void readAll() {
        for (int i = 0; i < model.nodes(true); i++) {
            int node = i;
            compare("about(" + node + ", 3)", () -> real.about(node, 3), () -> model.about(node, 3));
            compare("about(" + node + ", 1)", () -> real.about(node, 1), () -> model.about(node, 1));
            compare("about(" + node + ", 0)", () -> real.about(node, 0), () -> model.about(node, 0));
        }
    }

    private void playRead(String call) {
        int node = node();
        int a = commit();
        int b = commit();
        int path = path();
        int k = small(5);
        boolean all = random.nextBoolean();
        switch (call) {
            case "base" -> compare("base(" + a + ", " + b + ")", () -> real.base(a, b), () -> model.base(a, b));
            case "conflict" -> compare("conflict(" + k + ")", () -> real.conflict(k), () -> model.conflict(k));
            case "about" -> compare("about(" + node + ", " + k + ")", () -> real.about(node, k), () -> model.about(node, k));
            case "child" -> compare("child(" + node + ", " + k + ")", () -> real.child(node, k), () -> model.child(node, k));
            case "nodes" -> compare("nodes(" + all + ")", () -> real.nodes(all), () -> model.nodes(all));
            case "count" -> compare("count(" + path + ")", () -> real.count(path), () -> model.count(path));
            case "find" -> compare("find(" + path + ", " + k + ")", () -> real.find(path, k), () -> model.find(path, k));
            case "alike" -> compare("alike(" + node + ")", () -> real.alike(node), () -> model.alike(node));
            case "distance" -> playDistance(a, b);
            case "state" -> compare("state(" + k + ")", () -> real.state(k), () -> model.state(k));
            default -> compare("above(" + a + ", " + k + ")", () -> real.above(a, k), () -> model.above(a, k));
        }
    }

    /** The model is slow here, so one call of some is enough. */
    private void playDistance(int a, int b) {
        if (random.nextInt(4) == 0) {
            compare("distance(" + a + ", " + b + ")", () -> real.distance(a, b), () -> model.distance(a, b));
        }
    }
}
