import java.util.NoSuchElementException;

/** The boundary cases that the document's terms and promises name, but for refused calls and merging. */
final class EdgeTest {
    private static final Class<NoSuchElementException> MISSING = NoSuchElementException.class;
    private static final Class<UnsupportedOperationException> FULL = UnsupportedOperationException.class;
    private static final int CHILD = 1;
    private static final int BELOW = 2;
    private static final int BEHIND = 3;
    private static final int ANY = 6;
    private static final int ALL_BELOW = BELOW + 4 * ANY;

    private final Check check = new Check("EdgeTest");

    public static void main(String[] args) {
        EdgeTest test = new EdgeTest();
        test.none();
        test.lastCall();
        test.numbersOfNodes();
        test.nodesInAll();
        test.root();
        test.labels();
        test.someOfTheNodes();
        test.justOneParent();
        test.documentOrder();
        test.firstTree();
        test.numbersOfCommits();
        test.treesOfCommits();
        test.firstCommit();
        test.firstHead();
        test.insertedPlace();
        test.deletedNumbers();
        test.deletedCount();
        test.movedPlace();
        test.relabelled();
        test.committedTree();
        test.parentsOfCommit();
        test.headAfterCommit();
        test.checkedOut();
        test.nothingTakenInAfterCheckout();
        test.parts();
        test.children();
        test.nodeCounts();
        test.alike();
        test.firstAlike();
        test.states();
        test.above();
        test.pathOrder();
        test.pathEnd();
        test.sixthStep();
        test.pathLabels();
        test.pathBegin();
        test.pathChildren();
        test.pathBelow();
        test.pathBehind();
        test.countedOnce();
        test.withoutSteps();
        test.foundNumbers();
        test.common();
        test.leastBase();
        test.stepOfLabel();
        test.stepOut();
        test.stepIn();
        test.stepAtRoot();
        test.farthest();
        test.check.end();
    }

    private static int path(int... steps) {
        return Groves.path(steps);
    }

    private static int step(int axis, int label) {
        return Groves.step(axis, label);
    }

    private void treeIs(String what, GroveMerge x, String due) {
        check.same(what, Groves.tree(x), due);
    }

    private void none() {
        check.sentence("public static final int NONE = -1;");
        check.same("NONE", GroveMerge.NONE, -1);
    }

    private void lastCall() {
        check.sentence("An object is used for at most 512 calls after it has been made");
        GroveMerge changed = new GroveMerge();
        for (int i = 1; i <= 511; i++) {
            changed.relabel(0, i % 6);
        }
        check.is("call 512 after changes", 511 % 6, () -> changed.about(0, 0));
        GroveMerge refused = new GroveMerge();
        for (int i = 1; i <= 511; i++) {
            Check.answer(() -> refused.child(0, 0));
        }
        check.is("call 512 after refused ones", 1, () -> refused.insert(0, 0, 0));
        GroveMerge merged = Groves.wide();
        merged.commit();
        merged.delete(23);
        merged.commit();
        merged.state(0);
        for (int i = 28; i <= 511; i += 2) {
            merged.checkout(1);
            merged.merge(2);
        }
        check.is("call 512 after merges", 23, () -> merged.nodes(false));
    }

    private void numbersOfNodes() {
        check.sentence("NODES are numbered 0, 1, .. in the order in which they are made");
        GroveMerge x = new GroveMerge();
        check.is("the first one made", 1, () -> x.insert(0, 0, 0));
        check.is("one made in front of it", 2, () -> x.insert(0, 0, 0));
        x.commit();
        x.checkout(0);
        check.is("one made on another line", 3, () -> x.insert(0, 0, 0));
        Check.answer(() -> x.insert(0, 0, 6));
        check.is("one made after a refused call", 4, () -> x.insert(3, 0, 0));
        x.checkout(1);
        check.is("one made back on the line", 5, () -> x.insert(0, 0, 0));
    }

    private void nodesInAll() {
        check.sentence("24 at most in all");
        GroveMerge x = new GroveMerge();
        for (int i = 1; i < 24; i++) {
            int node = i;
            check.is("node " + i + ", those before it being deleted", i, () -> x.insert(0, 0, 0));
            x.delete(node);
        }
        check.is("nodes made", 24, () -> x.nodes(true));
        check.is("nodes in the tree", 1, () -> x.nodes(false));
        check.fails("one more", FULL, () -> x.insert(0, 0, 0));
        x.checkout(0);
        check.fails("one more after a checkout", FULL, () -> x.insert(0, 0, 0));
        check.is("none was made since", 24, () -> x.nodes(true));
        GroveMerge full = Groves.wide();
        check.is("24 in the tree at once", 24, () -> full.nodes(false));
        check.is("the last one", 23, () -> full.child(0, 22));
    }

    private void root() {
        check.sentence("0 is the ROOT");
        GroveMerge x = Groves.sample();
        check.is("its number in the order", 0, () -> x.about(0, 3));
        check.is("found by the path without steps", 0, () -> x.find(0, 0));
        x.checkout(0);
        check.is("alone in the tree", 0, () -> x.about(0, 2));
    }

    private void labels() {
        check.sentence("each has a LABEL, 0 .. 5");
        GroveMerge x = new GroveMerge();
        for (int i = 0; i <= 5; i++) {
            int label = i;
            int node = x.insert(0, i, label);
            check.is("inserted with label " + label, label, () -> x.about(node, 0));
            check.done("relabel the root to " + label, () -> x.relabel(0, label));
            check.is("the root with label " + label, label, () -> x.about(0, 0));
        }
    }

    private void someOfTheNodes() {
        check.sentence("A TREE has the root and some of the nodes made");
        GroveMerge x = Groves.sample();
        x.commit();
        x.checkout(0);
        for (int i = 1; i < 7; i++) {
            int node = i;
            check.fails("made, and not in the first tree, " + i, MISSING, () -> x.about(node, 0));
        }
        x.insert(0, 0, 0);
        check.is("the last one made is in it", 1, () -> x.about(7, 3));
        x.checkout(1);
        check.fails("the last one made is not in the other", MISSING, () -> x.about(7, 3));
        check.is("one made before is", 4, () -> x.about(6, 3));
    }

    private void justOneParent() {
        check.sentence("each but the root is the child of just one, its PARENT, and the root is above all");
        GroveMerge x = Groves.sample();
        x.move(4, 2, 0);
        x.move(1, 5, 0);
        x.move(3, 0, 0);
        int[] seen = new int[7];
        for (int node = 0; node < 7; node++) {
            for (int i = 0; i < x.about(node, 2); i++) {
                int child = x.child(node, i);
                seen[child]++;
                check.same("the parent of " + child, x.about(child, 1), node);
            }
        }
        for (int node = 0; node < 7; node++) {
            check.same("how often " + node + " is a child", seen[node], node == 0 ? 0 : 1);
        }
        check.is("all are below the root", 6, () -> x.count(ALL_BELOW));
    }

    private void documentOrder() {
        check.sentence("a node stands before all below it, and a child with all below it before the next child");
        GroveMerge x = Groves.sample();
        x.move(2, 0, 0);
        x.move(4, 1, 0);
        treeIs("the tree", x, "0:0(2:1(5:2) 1:1(4:3(6:5) 3:2))");
        int[] order = {0, 2, 5, 1, 4, 6, 3};
        for (int i = 0; i < order.length; i++) {
            int rank = i;
            check.is("the number of " + order[i], rank, () -> x.about(order[rank], 3));
        }
        GroveMerge chain = Groves.chain();
        check.is("the last of a chain", 23, () -> chain.about(23, 3));
    }

    private void firstTree() {
        check.sentence("There is the WORKING tree, at first the root with label 0 alone.");
        GroveMerge x = new GroveMerge();
        treeIs("the tree", x, "0:0");
        check.is("its nodes", 1, () -> x.nodes(false));
        check.is("made", 1, () -> x.nodes(true));
        check.is("below the root", 0, () -> x.count(ALL_BELOW));
        check.is("alike the root", 0, () -> x.alike(0));
    }

    private void numbersOfCommits() {
        check.sentence("COMMITS are numbered 0, 1, .. , 12 at most");
        GroveMerge x = new GroveMerge();
        for (int i = 1; i < 12; i++) {
            int commit = i;
            check.is("commit " + i, commit, x::commit);
            check.is("how many there are", commit + 1, () -> x.state(0));
        }
        check.fails("one more", FULL, x::commit);
        x.checkout(0);
        check.fails("one more over the first", FULL, x::commit);
        check.is("a merge is none", 0, () -> x.merge(11));
        check.is("there are twelve", 12, () -> x.state(0));
        check.is("the base of the last two", 10, () -> x.base(10, 11));
        check.is("what the last stands over", 10, () -> x.above(11, 0));
        check.is("the distance of the last", 0, () -> x.distance(0, 11));
    }

    private void treesOfCommits() {
        check.sentence("each has a tree, which never changes");
        GroveMerge x = Groves.sample();
        x.commit();
        String due = Groves.tree(x);
        x.relabel(1, 5);
        x.move(4, 0, 0);
        x.delete(2);
        x.insert(6, 0, 1);
        x.commit();
        x.checkout(1);
        treeIs("after changes and a commit", x, due);
        x.checkout(0);
        x.merge(1);
        x.relabel(3, 0);
        x.commit();
        x.checkout(1);
        treeIs("after a merge and a change", x, due);
        x.delete(1);
        x.checkout(1);
        treeIs("after a change of what was taken up", x, due);
    }

    private void firstCommit() {
        check.sentence("commit 0 is there at first, with the working tree as it is then, without parents");
        GroveMerge x = new GroveMerge();
        check.is("how many commits", 1, () -> x.state(0));
        check.is("its first parent", GroveMerge.NONE, () -> x.above(0, 0));
        check.is("its second parent", GroveMerge.NONE, () -> x.above(0, 1));
        check.is("the tree is that of commit 0", 0, () -> x.merge(0));
        x.insert(0, 0, 1);
        x.relabel(0, 5);
        x.checkout(0);
        treeIs("its tree", x, "0:0");
        check.is("its base with itself", 0, () -> x.base(0, 0));
        check.is("its distance from itself", 0, () -> x.distance(0, 0));
    }

    private void firstHead() {
        check.sentence("The HEAD is a commit, at first 0. A commit may be TAKEN IN, at first none is.");
        GroveMerge x = new GroveMerge();
        check.is("the head", 0, () -> x.state(1));
        check.is("taken in", GroveMerge.NONE, () -> x.state(2));
        x.commit();
        check.is("the first commit stands over 0", 0, () -> x.above(1, 0));
        check.is("and over nothing else", GroveMerge.NONE, () -> x.above(1, 1));
    }

    private void insertedPlace() {
        check.sentence("as the child with the number place (from 0) of a parent: its number");
        for (int i = 0; i <= 3; i++) {
            int place = i;
            GroveMerge x = new GroveMerge();
            x.insert(0, 0, 1);
            x.insert(0, 1, 1);
            x.insert(0, 2, 1);
            x.insert(1, 0, 2);
            x.insert(3, 0, 2);
            check.is("insert at " + place, 6, () -> x.insert(0, place, 3));
            check.is("the child there", 6, () -> x.child(0, place));
            check.is("children then", 4, () -> x.about(0, 2));
        }
    }

    private void deletedNumbers() {
        check.sentence("(their numbers are never given again)");
        GroveMerge x = Groves.sample();
        x.delete(4);
        check.is("after deleting the last ones made", 7, () -> x.insert(0, 0, 0));
        x.delete(1);
        x.delete(2);
        x.delete(7);
        check.is("after deleting all", 8, () -> x.insert(0, 0, 0));
        check.fails("a deleted one is not in it", MISSING, () -> x.about(7, 0));
    }

    private void deletedCount() {
        check.sentence("Takes a node with all below it out of the working tree");
        GroveMerge x = Groves.sample();
        check.is("delete a leaf", 1, () -> x.delete(5));
        check.is("delete one with one below", 2, () -> x.delete(4));
        check.is("delete one with what is left below", 2, () -> x.delete(1));
        treeIs("what is left", x, "0:0(2:1)");
        check.is("how many are left", 2, () -> x.nodes(false));
        GroveMerge chain = Groves.chain();
        check.is("delete the last of a chain", 1, () -> chain.delete(23));
        check.is("delete all but the root", 22, () -> chain.delete(1));
        treeIs("the root is left", chain, "0:0");
    }

    private void movedPlace() {
        check.sentence("to be the child with the number place of a parent (counted without it)");
        String[] due = {"0:0(1:0 2:1 3:2)", "0:0(2:1 1:0 3:2)", "0:0(2:1 3:2 1:0)"};
        for (int place = 0; place < 3; place++) {
            GroveMerge x = new GroveMerge();
            x.insert(0, 0, 0);
            x.insert(0, 1, 1);
            x.insert(0, 2, 2);
            x.move(1, 0, place);
            treeIs("the first to " + place, x, due[place]);
            x.move(1, 0, 2);
            x.move(1, 0, place);
            treeIs("the last to " + place, x, due[place]);
        }
        GroveMerge x = Groves.sample();
        x.move(2, 1, 2);
        treeIs("to the end of another row", x, "0:0(1:1(3:2 4:3(6:5) 2:1(5:2)))");
        x.move(2, 6, 0);
        treeIs("to a leaf before it, with all below it", x, "0:0(1:1(3:2 4:3(6:5(2:1(5:2)))))");
        x.move(2, 0, 0);
        treeIs("out again, to the front", x, "0:0(2:1(5:2) 1:1(3:2 4:3(6:5)))");
        GroveMerge wide = Groves.wide();
        wide.move(1, 0, 22);
        check.is("the first of 23 to the end", 1, () -> wide.child(0, 22));
        check.is("the second is the first then", 2, () -> wide.child(0, 0));
    }

    private void relabelled() {
        check.sentence("A node of the working tree gets a label.");
        GroveMerge x = Groves.sample();
        x.relabel(0, 5);
        x.relabel(6, 0);
        x.relabel(3, 2);
        treeIs("only these labels", x, "0:5(1:1(3:2 4:3(6:0)) 2:1(5:2))");
    }

    private void committedTree() {
        check.sentence("A new commit with the working tree as it is");
        GroveMerge x = new GroveMerge();
        x.commit();
        check.is("unchanged", 0, () -> x.distance(0, 1));
        x.insert(0, 0, 1);
        x.insert(1, 0, 2);
        x.commit();
        treeIs("it stays as it is", x, "0:0(1:1(2:2))");
        x.checkout(0);
        x.merge(2);
        x.relabel(2, 5);
        x.insert(0, 0, 3);
        x.commit();
        x.checkout(2);
        x.checkout(3);
        treeIs("merged and changed after that", x, "0:0(3:3 1:1(2:5))");
        GroveMerge full = Groves.chain();
        full.commit();
        String due = Groves.tree(full);
        full.checkout(0);
        full.checkout(1);
        treeIs("with all 24 nodes", full, due);
    }

    private void parentsOfCommit() {
        check.sentence("its parents are the head and what is taken in, if anything is");
        GroveMerge x = Groves.crossed();
        check.is("the first parent of a merge", 2, () -> x.above(4, 0));
        check.is("the second parent of a merge", 1, () -> x.above(4, 1));
        check.is("the only parent without a merge", 1, () -> x.above(5, 0));
        check.is("no second one without a merge", GroveMerge.NONE, () -> x.above(5, 1));
        x.checkout(4);
        x.merge(0);
        x.commit();
        check.is("0 as the second parent", 0, () -> x.above(6, 1));
        x.merge(6);
        x.commit();
        check.is("the head as the first parent", 6, () -> x.above(7, 0));
        check.is("the head as the second parent", 6, () -> x.above(7, 1));
        x.merge(1);
        x.checkout(7);
        x.commit();
        check.is("what was given up is no parent", GroveMerge.NONE, () -> x.above(8, 1));
    }

    private void headAfterCommit() {
        check.sentence("it becomes the head, and nothing is taken in. Its number.");
        GroveMerge x = Groves.sample();
        check.is("commit", 1, x::commit);
        check.is("the head", 1, () -> x.state(1));
        x.merge(0);
        check.is("taken in before", 0, () -> x.state(2));
        check.is("commit a merge", 2, x::commit);
        check.is("the head then", 2, () -> x.state(1));
        check.is("taken in then", GroveMerge.NONE, () -> x.state(2));
        x.checkout(0);
        check.is("commit over an older one", 3, x::commit);
        check.is("the head at last", 3, () -> x.state(1));
    }

    private void checkedOut() {
        check.sentence("The working tree (whatever was changed in it) becomes that of a commit");
        Groves.Use[] changes = {
            x -> x.relabel(0, 5), x -> x.move(3, 2, 0), x -> x.delete(1), x -> x.insert(6, 0, 0), x -> x.merge(0),
            x -> x.checkout(0),
        };
        for (int i = 0; i < changes.length; i++) {
            GroveMerge x = Groves.sample();
            x.commit();
            changes[i].on(x);
            x.checkout(1);
            treeIs("after change " + i, x, "0:0(1:1(3:2 4:3(6:5)) 2:1(5:2))");
            check.is("a merge finds the head's tree", 0, () -> x.merge(1));
        }
    }

    private void nothingTakenInAfterCheckout() {
        check.sentence("becomes that of a commit, which becomes the head; nothing is taken in.");
        GroveMerge x = Groves.sample();
        x.commit();
        x.merge(0);
        x.checkout(1);
        check.is("taken in after a checkout of the head", GroveMerge.NONE, () -> x.state(2));
        x.merge(0);
        x.checkout(0);
        check.is("taken in after a checkout of what was taken in", GroveMerge.NONE, () -> x.state(2));
        check.is("the head", 0, () -> x.state(1));
    }

    private void parts() {
        check.sentence("part 0 its label, 1 its parent (NONE for the root), 2 how many children it has, "
                + "3 its number in the document order (0 for the root)");
        GroveMerge x = Groves.wide();
        x.relabel(0, 5);
        check.is("the root's label", 5, () -> x.about(0, 0));
        check.is("the root's parent", GroveMerge.NONE, () -> x.about(0, 1));
        check.is("the root's children", 23, () -> x.about(0, 2));
        check.is("the root's number", 0, () -> x.about(0, 3));
        check.is("the last one's label", 22 % 6, () -> x.about(23, 0));
        check.is("the last one's parent", 0, () -> x.about(23, 1));
        check.is("the last one's children", 0, () -> x.about(23, 2));
        check.is("the last one's number", 23, () -> x.about(23, 3));
    }

    private void children() {
        check.sentence("Child i of a node of the working tree.");
        GroveMerge x = Groves.wide();
        x.move(1, 23, 0);
        check.is("the first", 2, () -> x.child(0, 0));
        check.is("the last", 23, () -> x.child(0, 21));
        check.is("the only one", 1, () -> x.child(23, 0));
    }

    private void nodeCounts() {
        check.sentence("How many nodes the working tree has, or how many were made (made).");
        GroveMerge x = Groves.chain();
        check.is("in a full tree", 24, () -> x.nodes(false));
        check.is("made in all", 24, () -> x.nodes(true));
        x.delete(23);
        check.is("one less", 23, () -> x.nodes(false));
        check.is("made as before", 24, () -> x.nodes(true));
        x.delete(1);
        check.is("the root alone", 1, () -> x.nodes(false));
        x.checkout(0);
        check.is("made as before still", 24, () -> x.nodes(true));
    }

    /** 0(1(2 3) 4(5 6)), each of the two below the root with the same labels. */
    private static GroveMerge twins() {
        GroveMerge x = new GroveMerge();
        x.insert(0, 0, 1);
        x.insert(1, 0, 2);
        x.insert(1, 1, 3);
        x.insert(0, 1, 1);
        x.insert(4, 0, 2);
        x.insert(4, 1, 3);
        return x;
    }

    private void unlike(String what, Groves.Use change) {
        GroveMerge x = twins();
        change.on(x);
        check.is(what, 4, () -> x.alike(4));
    }

    private void alike() {
        check.sentence("TWO NODES ARE ALIKE when they have the same label and as many children, and these are alike one by one.");
        GroveMerge same = twins();
        check.is("the same in all", 1, () -> same.alike(4));
        check.is("without children", 2, () -> same.alike(5));
        unlike("another label", x -> x.relabel(4, 0));
        unlike("a child less", x -> x.delete(6));
        unlike("the first child less", x -> x.delete(5));
        unlike("a child more", x -> x.insert(4, 2, 2));
        unlike("no children", x -> {
            x.delete(5);
            x.delete(6);
        });
        unlike("another label of the first child", x -> x.relabel(5, 3));
        unlike("another label of the last child", x -> x.relabel(6, 2));
        unlike("the children turned", x -> x.move(5, 4, 1));
        unlike("a child below the other", x -> x.move(6, 5, 0));
        unlike("a child more far below", x -> x.insert(6, 0, 0));
        GroveMerge shapes = twins();
        shapes.insert(2, 0, 4);
        shapes.insert(6, 0, 4);
        check.is("as many below, in other places", 4, () -> shapes.alike(4));
        GroveMerge chain = new GroveMerge();
        for (int i = 0; i < 23; i++) {
            chain.insert(i, 0, 0);
        }
        check.is("the last of a chain of one label", 23, () -> chain.alike(23));
    }

    private void firstAlike() {
        check.sentence("The first node of the working tree, in the document order, that is alike a node.");
        GroveMerge x = twins();
        x.insert(0, 0, 3);
        check.is("the first of three, made last", 7, () -> x.alike(6));
        check.is("the first itself", 7, () -> x.alike(7));
        x.move(7, 0, 2);
        check.is("the first of three after a move", 3, () -> x.alike(7));
        x.move(4, 0, 0);
        check.is("the first of two after a move", 4, () -> x.alike(1));
        check.is("the root, which only itself is alike", 0, () -> x.alike(0));
        x.relabel(0, 3);
        check.is("the root is not alike a leaf of its label", 6, () -> x.alike(7));
        GroveMerge wide = new GroveMerge();
        for (int i = 0; i < 23; i++) {
            wide.insert(0, i, 1);
        }
        check.is("the first of 23", 1, () -> wide.alike(23));
    }

    private void states() {
        check.sentence("How many commits there are; which is the head; which is taken in (NONE when none is)");
        GroveMerge x = Groves.twelve();
        x.checkout(4);
        check.is("commits", 12, () -> x.state(0));
        check.is("head", 4, () -> x.state(1));
        check.is("taken in, none", GroveMerge.NONE, () -> x.state(2));
        x.merge(11);
        check.is("taken in, the last", 11, () -> x.state(2));
        x.checkout(4);
        x.merge(0);
        check.is("taken in, the first", 0, () -> x.state(2));
    }

    private void above() {
        check.sentence("Parent i (0 or 1) of a commit; NONE when it has not so many.");
        GroveMerge x = Groves.crossed();
        check.is("0 of none", GroveMerge.NONE, () -> x.above(0, 0));
        check.is("1 of none", GroveMerge.NONE, () -> x.above(0, 1));
        check.is("0 of one", 1, () -> x.above(5, 0));
        check.is("1 of one", GroveMerge.NONE, () -> x.above(5, 1));
        check.is("0 of two", 1, () -> x.above(3, 0));
        check.is("1 of two", 2, () -> x.above(3, 1));
    }

    private void pathOrder() {
        check.sentence("of steps of 5 bits, the lowest ones first");
        GroveMerge x = Groves.sample();
        check.is("label 1, then label 3", 4, () -> x.find(step(CHILD, 1) | step(CHILD, 3) << 5, 0));
        check.is("label 3, then label 1", 0, () -> x.count(step(CHILD, 3) | step(CHILD, 1) << 5));
        check.is("three steps", 6, () -> x.find(step(CHILD, 1) | step(CHILD, 3) << 5 | step(CHILD, 5) << 10, 0));
    }

    private void pathEnd() {
        check.sentence("up to one whose lowest two bits are 0");
        GroveMerge x = Groves.sample();
        for (int i = 0; i < 8; i++) {
            int end = step(0, i);
            check.is("ended at once, label " + i, 0, () -> x.find(path(end, step(CHILD, ANY)), 0));
            check.is("ended after one, label " + i, 2, () -> x.count(path(step(CHILD, ANY), end, step(CHILD, ANY))));
        }
        check.is("ended by bits that are all 0", 6, () -> x.count(ALL_BELOW));
        check.is("all bits but the lowest two", 0, () -> x.find(-4, 0));
        check.is("and just one", 1, () -> x.count(-4));
        check.is("a row of ends", 1, () -> x.count(path(step(0, 7), step(0, 7), step(0, 7), step(0, 7), step(0, 7), step(0, 7))));
    }

    private void sixthStep() {
        check.sentence("up to one whose lowest two bits are 0 or the sixth");
        GroveMerge x = Groves.chain();
        int five = path(25, 25, 25, 25, 25);
        int six = path(25, 25, 25, 25, 25, 25);
        check.is("five steps", 5, () -> x.find(five, 0));
        check.is("six steps", 6, () -> x.find(six, 0));
        for (int i = 0; i < 4; i++) {
            int above = i << 30;
            check.is("six steps with the bits above " + i, 6, () -> x.find(six | above, 0));
            check.is("five steps with the bits above " + i, 5, () -> x.find(five | above, 0));
            check.is("no steps with the bits above " + i, 0, () -> x.find(above, 0));
        }
        for (int i = 0; i < 8; i++) {
            int label = i;
            check.is("the sixth with label " + i, label >= 5 ? 1 : 0, () -> x.count(five | step(CHILD, label) << 25));
            check.is("the sixth an end with label " + i, 5, () -> x.find(five | step(0, label) << 25, 0));
        }
        check.is("the sixth all below", 18, () -> x.count(five | ALL_BELOW << 25));
        check.is("six times all below", 18, () -> x.count(path(26, 26, 26, 26, 26, 26)));
        check.is("all bits set", 0, () -> x.count(-1));
    }

    private void pathLabels() {
        check.sentence("bits 2 to 4 the label, 6 and 7 for any");
        GroveMerge x = new GroveMerge();
        for (int label = 0; label < 6; label++) {
            for (int i = 0; i <= label; i++) {
                x.insert(0, 0, label);
            }
        }
        for (int i = 0; i < 6; i++) {
            int label = i;
            check.is("label " + i, label + 1, () -> x.count(path(step(CHILD, label))));
        }
        check.is("6 for any", 21, () -> x.count(path(step(CHILD, 6))));
        check.is("7 for any", 21, () -> x.count(path(step(CHILD, 7))));
        check.is("7 for any below", 21, () -> x.count(path(step(BELOW, 7))));
        check.is("6 for any behind", 20, () -> x.count(path(step(CHILD, 6), step(BEHIND, 6))));
        check.is("7 for any behind", 20, () -> x.count(path(step(CHILD, 7), step(BEHIND, 7))));
        check.is("label 0 behind label 5", 1, () -> x.count(path(step(CHILD, 5), step(BEHIND, 0))));
        check.is("label 5 behind label 0", 0, () -> x.count(path(step(CHILD, 0), step(BEHIND, 5))));
    }

    private void pathBegin() {
        check.sentence("One begins with the root");
        GroveMerge x = Groves.sample();
        for (int i = 0; i < 6; i++) {
            x.relabel(0, i);
            check.is("whatever its label is, " + i, 2, () -> x.count(path(step(CHILD, ANY))));
        }
    }

    private void pathChildren() {
        check.sentence("with all nodes that are, for one of those that one has, a child (1)");
        GroveMerge x = Groves.sample();
        check.is("of the root", 2, () -> x.count(path(step(CHILD, ANY))));
        check.is("of its children", 3, () -> x.count(path(step(CHILD, ANY), step(CHILD, ANY))));
        check.is("of their children", 6, () -> x.find(path(step(CHILD, ANY), step(CHILD, ANY), step(CHILD, ANY)), 0));
        check.is("of a leaf", 0, () -> x.count(path(step(BELOW, 5), step(CHILD, ANY))));
        check.is("of none", 0, () -> x.count(path(step(BELOW, 4), step(CHILD, ANY))));
        GroveMerge alone = new GroveMerge();
        check.is("of the root alone", 0, () -> alone.count(path(step(CHILD, ANY))));
    }

    private void pathBelow() {
        check.sentence("any node below (2)");
        GroveMerge x = Groves.sample();
        check.is("the root is not below itself", 0, () -> x.count(path(step(BELOW, 0))));
        check.is("below the children", 4, () -> x.count(path(step(CHILD, ANY), step(BELOW, ANY))));
        check.is("below a leaf", 0, () -> x.count(path(step(BELOW, 5), step(BELOW, ANY))));
        check.is("below none", 0, () -> x.count(path(step(BELOW, 4), step(BELOW, ANY))));
        check.is("a label at any depth", 2, () -> x.count(path(step(BELOW, 2))));
        check.is("a label far below one without it", 6, () -> x.find(path(step(CHILD, 1), step(BELOW, 5)), 0));
        GroveMerge chain = Groves.chain();
        check.is("below the root of a chain", 23, () -> chain.count(path(step(BELOW, ANY))));
    }

    private void pathBehind() {
        check.sentence("or a child of the same parent that stands behind (3), and have the label");
        GroveMerge x = Groves.sample();
        check.is("nothing behind the root", 0, () -> x.count(path(step(BEHIND, ANY))));
        check.is("behind the first", 2, () -> x.find(path(step(CHILD, ANY), step(BEHIND, ANY)), 0));
        check.is("not itself, nor one before", 1, () -> x.count(path(step(CHILD, ANY), step(BEHIND, ANY))));
        check.is("nothing behind the last", 0, () -> x.count(path(step(BELOW, 3), step(BEHIND, ANY))));
        check.is("not of another parent", 0, () -> x.count(path(step(BELOW, 5), step(BEHIND, ANY))));
        check.is("in each row", 2, () -> x.count(path(step(BELOW, ANY), step(BEHIND, ANY))));
        check.is("with a label", 4, () -> x.find(path(step(BELOW, ANY), step(BEHIND, 3)), 0));
        check.is("not below one behind", 0, () -> x.count(path(step(BELOW, ANY), step(BEHIND, 2))));
        GroveMerge wide = Groves.wide();
        int again = step(BEHIND, ANY);
        check.is("behind, five times", 18, () -> wide.count(path(step(CHILD, ANY), again, again, again, again, again)));
    }

    private void countedOnce() {
        check.sentence("How many nodes a path finds in the working tree (each counted once");
        GroveMerge chain = Groves.chain();
        check.is("below several", 22, () -> chain.count(path(ALL_BELOW, ALL_BELOW)));
        check.is("the first of them", 2, () -> chain.find(path(ALL_BELOW, ALL_BELOW), 0));
        check.is("the next of them", 3, () -> chain.find(path(ALL_BELOW, ALL_BELOW), 1));
        GroveMerge wide = Groves.wide();
        check.is("behind several", 22, () -> wide.count(path(step(CHILD, ANY), step(BEHIND, ANY))));
    }

    private void withoutSteps() {
        check.sentence("without steps the root");
        GroveMerge x = Groves.sample();
        x.relabel(0, 3);
        check.is("how many", 1, () -> x.count(0));
        check.is("which", 0, () -> x.find(0, 0));
        check.fails("no other", MISSING, () -> x.find(0, 1));
        GroveMerge alone = new GroveMerge();
        check.is("in the first tree", 1, () -> alone.count(0));
    }

    private void foundNumbers() {
        check.sentence("Number k (from 0) of the nodes that a path finds, in the document order.");
        GroveMerge x = Groves.wide();
        for (int i = 1; i < 23; i++) {
            x.move(i + 1, 0, 0);
        }
        for (int i = 0; i < 22; i++) {
            int k = i;
            check.is("number " + i, 23 - i, () -> x.find(ALL_BELOW, k));
        }
        check.is("the last", 1, () -> x.find(ALL_BELOW, 22));
        check.is("the first with a label", 19, () -> x.find(path(step(CHILD, 0)), 0));
        check.is("the last with a label", 1, () -> x.find(path(step(CHILD, 0)), 3));
        check.fails("one behind the last with a label", MISSING, () -> x.find(path(step(CHILD, 0)), 4));
    }

    private void common() {
        check.sentence("to which one can come from both by going to parents (in no step, too)");
        GroveMerge x = Groves.crossed();
        for (int i = 0; i < 6; i++) {
            int commit = i;
            check.is("with itself, " + i, commit, () -> x.base(commit, commit));
            check.is("with the first, " + i, 0, () -> x.base(commit, 0));
            check.is("the first with it, " + i, 0, () -> x.base(0, commit));
        }
        check.is("with its first parent", 1, () -> x.base(3, 1));
        check.is("with its second parent", 2, () -> x.base(3, 2));
        check.is("its second parent with it", 2, () -> x.base(2, 3));
        GroveMerge line = Groves.twelve();
        check.is("the last with one above", 7, () -> line.base(11, 7));
        check.is("one above with the last", 10, () -> line.base(10, 11));
    }

    private void leastBase() {
        check.sentence("their BASE is the least of those common ones to which one can't come from another common one");
        GroveMerge x = Groves.crossed();
        check.is("the least of two", 1, () -> x.base(3, 4));
        check.is("the least of two, turned", 1, () -> x.base(4, 3));
        check.is("the least common one is not the base", 2, () -> x.base(4, 2));
        x.checkout(2);
        x.commit();
        x.merge(3);
        x.commit();
        check.is("one through the second parent hides those above", 3, () -> x.base(7, 3));
        check.is("two by ways of different lengths", 1, () -> x.base(7, 4));
        check.is("only the second line", 2, () -> x.base(6, 4));
        check.is("the lines have but the first", 0, () -> x.base(6, 5));
    }

    private void stepOfLabel() {
        check.sentence("a step gives a node another label");
        GroveMerge x = Groves.sample();
        x.commit();
        x.relabel(0, 5);
        x.commit();
        check.is("of the root", 1, () -> x.distance(1, 2));
        x.relabel(6, 0);
        x.commit();
        check.is("of the root and of a leaf", 2, () -> x.distance(1, 3));
        x.relabel(0, 0);
        x.relabel(6, 5);
        x.commit();
        check.is("and back", 0, () -> x.distance(1, 4));
    }

    private void stepOut() {
        check.sentence("or takes a node out, its children standing in its place");
        GroveMerge x = Groves.sample();
        x.commit();
        x.delete(6);
        x.commit();
        check.is("without children", 1, () -> x.distance(1, 2));
        x.checkout(1);
        x.move(6, 1, 1);
        x.delete(4);
        x.commit();
        check.is("with one child", 1, () -> x.distance(1, 3));
        x.checkout(1);
        x.move(3, 0, 0);
        x.move(4, 0, 1);
        x.delete(1);
        x.commit();
        check.is("with several children", 1, () -> x.distance(1, 4));
        x.move(3, 0, 2);
        x.commit();
        check.is("its children not in its place", 3, () -> x.distance(1, 5));
    }

    /** The root with four leaves of the labels 1 to 4. */
    private static GroveMerge four() {
        GroveMerge x = new GroveMerge();
        for (int i = 0; i < 4; i++) {
            x.insert(0, i, i + 1);
        }
        x.commit();
        return x;
    }

    /** The distance when a node with label 5 comes in at a place and takes over some of the four. */
    private void putIn(String what, int due, int place, int... taken) {
        GroveMerge x = four();
        x.insert(0, place, 5);
        for (int i = 0; i < taken.length; i++) {
            x.move(taken[i], 5, i);
        }
        x.commit();
        check.is(what, due, () -> x.distance(1, 2));
        check.is(what + ", and taken out", due, () -> x.distance(2, 1));
    }

    private void stepIn() {
        check.sentence("or puts one in, as the child of a node and the parent of some of its children, "
                + "none or several standing beside one another, in their order");
        putIn("of none, in front", 1, 0);
        putIn("of none, last", 1, 4);
        putIn("of one", 1, 1, 2);
        putIn("of two beside one another", 1, 1, 2, 3);
        putIn("of all", 1, 0, 1, 2, 3, 4);
        putIn("of two not beside one another", 3, 0, 1, 3);
        putIn("of two in another order", 3, 1, 3, 2);
    }

    private void stepAtRoot() {
        check.sentence("(The root may be taken out when it has just one child, and another may be put in above it.)");
        GroveMerge x = new GroveMerge();
        x.relabel(0, 5);
        x.insert(0, 0, 1);
        x.insert(1, 0, 2);
        x.insert(1, 1, 3);
        x.commit();
        x.move(2, 0, 0);
        x.move(3, 0, 1);
        x.delete(1);
        x.relabel(0, 1);
        x.commit();
        treeIs("as if the root were out", x, "0:1(2:2 3:3)");
        check.is("the root is taken out", 1, () -> x.distance(1, 2));
        check.is("another is put in above it", 1, () -> x.distance(2, 1));
        x.delete(3);
        x.delete(2);
        x.relabel(0, 2);
        x.commit();
        treeIs("one of two children alone", x, "0:2");
        check.is("with two children one goes first", 2, () -> x.distance(2, 3));
        check.is("two roots are taken out", 3, () -> x.distance(1, 3));
        check.is("two are put in above", 3, () -> x.distance(3, 1));
    }

    private void farthest() {
        check.sentence("THE DISTANCE of two trees is the least number of steps that make one into a tree alike the other (roots compared)");
        GroveMerge x = new GroveMerge();
        for (int i = 0; i < 23; i++) {
            x.insert(i, 0, 1);
        }
        x.relabel(0, 1);
        x.commit();
        check.is("a chain of 24 to one node, no label in common", 24, () -> x.distance(0, 1));
        check.is("and back", 24, () -> x.distance(1, 0));
        for (int i = 2; i < 24; i++) {
            x.move(i, 0, i - 1);
            x.relabel(i, 2);
        }
        x.relabel(0, 2);
        x.relabel(1, 2);
        x.commit();
        check.is("a chain of 24 to a row of 24, no label in common", 46, () -> x.distance(1, 2));
        check.is("to itself", 0, () -> x.distance(2, 2));
        x.checkout(0);
        x.commit();
        check.is("other commits with the same tree", 0, () -> x.distance(0, 3));
        GroveMerge alike = Groves.sample();
        alike.commit();
        alike.checkout(0);
        int[][] nodes = {{0, 0, 1}, {0, 1, 1}, {7, 0, 2}, {7, 1, 3}, {8, 0, 2}, {10, 0, 5}};
        for (int[] node : nodes) {
            alike.insert(node[0], node[1], node[2]);
        }
        alike.commit();
        check.is("alike with other nodes", 0, () -> alike.distance(1, 2));
    }
}
