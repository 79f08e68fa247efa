import java.io.File;
import java.io.IOException;
import java.lang.reflect.Method;
import java.lang.reflect.Modifier;
import java.nio.file.Files;
import java.nio.file.Path;
import java.util.ArrayList;
import java.util.List;
import java.util.Set;
import java.util.TreeSet;
import java.util.regex.Matcher;
import java.util.regex.Pattern;
import java.util.stream.Collectors;
import java.util.stream.Stream;

/** What README.md says is so: its example, its numbers, and the calls, files and tests that it names. */
final class ReadmeTest {
    private static final Path TESTS = Path.of("src/test/java");

    private final Check check = new Check("ReadmeTest");
    private final String text;
    private final List<String> example;
    private int row = 0;

    private ReadmeTest(String text) {
        this.text = text;
        this.example = block("java");
    }

    public static void main(String[] args) throws IOException {
        ReadmeTest test = new ReadmeTest(Files.readString(Path.of("README.md")));
        test.example();
        test.paths();
        test.merges();
        test.limits();
        test.calls();
        test.files();
        test.tests();
        test.sizes();
        test.check.end();
    }

    private List<String> block(String language) {
        Matcher block = Pattern.compile("```" + language + "\n(.*?)```", Pattern.DOTALL).matcher(text);
        return block.find() ? block.group(1).lines().toList() : List.of();
    }

    /** The next row of the example is this one, and it answers what stands behind it. */
    private void row(String code, String comment, int due, Check.Call call) {
        String line = row < example.size() ? example.get(row) : "";
        row++;
        check.same("row " + row, line.replaceAll(" +// .*", ""), code);
        check.same("what is said of row " + row, line.contains("// ") ? line.replaceAll(".*// ", "") : "", comment);
        check.is(code, due, call);
    }

    private void row(String code, Check.Act act) {
        row(code, "", 0, () -> {
            act.run();
            return 0;
        });
    }

    private void example() {
        GroveMerge x = new GroveMerge();
        row("GroveMerge grove = new GroveMerge();", "the root, node 0 with label 0, and commit 0", 0, () -> x.about(0, 0));
        row("int house = grove.insert(0, 0, 1);", "child 0 of the root, with label 1: node 1", 1, () -> x.insert(0, 0, 1));
        row("int start = grove.commit();", "commit 1", 1, x::commit);
        row("grove.relabel(house, 4);", () -> x.relabel(1, 4));
        row("int painted = grove.commit();", "commit 2", 2, x::commit);
        row("grove.checkout(start);", () -> x.checkout(1));
        row("int garden = grove.insert(0, 1, 2);", "node 2", 2, () -> x.insert(0, 1, 2));
        row("grove.commit();", "commit 3", 3, x::commit);
        row("int conflicts = grove.merge(painted);", "0: both changes are in the working tree now", 0, () -> x.merge(2));
        check.same("both changes", Groves.tree(x), "0:0(1:4 2:2)");
        row("grove.about(house, 0);", "4, the label from commit 2", 4, () -> x.about(1, 0));
        row("grove.commit();", "commit 4, with the parents 3 and 2", 4, x::commit);
        check.is("the first parent", 3, () -> x.above(4, 0));
        check.is("the second parent", 2, () -> x.above(4, 1));
        row("grove.distance(1, 4);", "2: another label and one node more", 2, () -> x.distance(1, 4));
        check.same("how many rows", example.size(), row);
    }

    private void says(String words) {
        check.same("it says: " + words, text.replaceAll("\\s+", " ").contains(words), true);
    }

    private void paths() {
        GroveMerge x = Groves.sample();
        says("`grove.count(1 + 4 * 2)` counts the children of the root with the label 2");
        check.is("without one", 0, () -> x.count(1 + 4 * 2));
        x.relabel(2, 2);
        check.is("with one", 1, () -> x.count(1 + 4 * 2));
        says("`grove.find((2 + 4 * 6) | (3 + 4 * 1) << 5, 0)` is the first node with the label 1 that stands behind any node of "
                + "its own row");
        x.relabel(2, 1);
        check.is("among the root's children", 2, () -> x.find((2 + 4 * 6) | (3 + 4 * 1) << 5, 0));
        x.relabel(4, 1);
        check.is("further below", 4, () -> x.find((2 + 4 * 6) | (3 + 4 * 1) << 5, 0));
    }

    private void merges() {
        says("change it so that the two lines agree, commit, and merge again");
        GroveMerge x = Groves.lines(Groves.sample(), y -> y.relabel(3, 0), y -> y.relabel(3, 1));
        check.is("merge", 1, () -> x.merge(2));
        check.is("kind 2 has got two labels", 3 + 32 * 2, () -> x.conflict(0));
        x.relabel(3, 0);
        x.commit();
        check.is("merge again", 0, () -> x.merge(2));
        for (int kind = 1; kind <= 5; kind++) {
            check.same("kind " + kind, text.contains("\n| " + kind + " | "), true);
        }
    }

    private void limits() {
        says("There are at most 24 nodes, deleted ones counted, and 12 commits, and labels are 0 to 5.");
        GroveMerge x = new GroveMerge();
        for (int i = 1; i < 24; i++) {
            x.delete(x.insert(0, 0, 5));
        }
        check.fails("a 25th node", UnsupportedOperationException.class, () -> x.insert(0, 0, 0));
        check.fails("label 6", IllegalArgumentException.class, () -> x.insert(0, 0, 6));
        check.fails("a 13th commit", UnsupportedOperationException.class, Groves.twelve()::commit);
        says("`NONE` (-1)");
        check.same("NONE", GroveMerge.NONE, -1);
    }

    /** In the table each call stands with as many arguments as it has. */
    private void calls() {
        for (Method method : GroveMerge.class.getDeclaredMethods()) {
            if (Modifier.isPublic(method.getModifiers())) {
                Matcher named = Pattern.compile("`" + method.getName() + "\\(([a-z, ]*)\\)`").matcher(text);
                boolean found = named.find();
                check.same(method.getName() + " is told", found, true);
                String arguments = found ? named.group(1) : "";
                int count = arguments.isEmpty() ? 0 : arguments.split(",").length;
                check.same("arguments of " + method.getName(), count, method.getParameterCount());
            }
        }
    }

    private void files() {
        for (String name : List.of("src/main/java/GroveMerge.java", "src/test/java", "../shared/DOC.md",
                "../shared/LANGUAGE.md", "../shared/tests")) {
            check.same(name + " is told", text.contains(name), true);
            check.same(name + " is there", Files.exists(Path.of(name)), true);
        }
        check.same("how to run the tests", block("sh"), List.of(".ci/run"));
        check.same(".ci/run may be run", new File(".ci/run").canExecute(), true);
    }

    private void tests() throws IOException {
        Set<String> told = new TreeSet<>();
        Matcher named = Pattern.compile("`(\\w+Test)`").matcher(text);
        while (named.find()) {
            told.add(named.group(1));
        }
        List<String> all = new ArrayList<>();
        try (Stream<Path> there = Files.list(TESTS)) {
            there.forEach(path -> all.add(path.getFileName().toString().replace(".java", "")));
        }
        check.same("the tests that it names", told,
                all.stream().filter(name -> name.endsWith("Test")).collect(Collectors.toCollection(TreeSet::new)));
        for (String name : all) {
            check.same(name + " is told", text.contains("`" + name + "`"), true);
        }
    }

    private void sizes() throws IOException {
        says("`ModelTest`: 4,000 seeded runs of 512 calls");
        holds("ModelTest", "RUNS = 4000;", "CALLS = 512;");
        says("`LedgerTest`: 400 seeded runs of 80 calls");
        holds("LedgerTest", "RUNS = 400;", "STEPS = 80;");
    }

    private void holds(String test, String... constants) throws IOException {
        String source = Files.readString(TESTS.resolve(test + ".java"));
        for (String constant : constants) {
            check.same(test + " has " + constant, source.contains(constant), true);
        }
    }
}
