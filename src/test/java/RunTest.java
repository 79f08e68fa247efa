import java.util.NoSuchElementException;

/** How the promises hold together: runs of calls in which one promise must outlast the others' work. */
final class RunTest {
    private static final Class<NoSuchElementException> MISSING = NoSuchElementException.class;
    private static final Class<UnsupportedOperationException> FULL = UnsupportedOperationException.class;
    private static final Class<IllegalStateException> UNREADY = IllegalStateException.class;
    private static final int NONE = GroveMerge.NONE;
    private static final int LABELS = 2 * 32;
    private static final int PARENTS = 3 * 32;
    private static final String SAMPLE = "0:0(1:1(3:2 4:3(6:5)) 2:1(5:2))";

    /** Calls that are refused in whatever state. */
    private static final Groves.Use[] NEVER = {
        x -> x.insert(24, 0, 0), x -> x.insert(0, -1, 0), x -> x.insert(0, 0, 6), x -> x.delete(0), x -> x.delete(24),
        x -> x.move(0, 0, 0), x -> x.relabel(0, -1), x -> x.checkout(12), x -> x.base(0, -1), x -> x.merge(12),
        x -> x.conflict(24), x -> x.about(0, 4), x -> x.child(0, 24), x -> x.find(0, 1), x -> x.alike(-1),
        x -> x.distance(12, 0), x -> x.state(3), x -> x.above(0, 2),
    };

    private final Check check = new Check("RunTest");

    public static void main(String[] args) {
        RunTest test = new RunTest();
        test.refusedBetween();
        test.commitsOutlastChanges();
        test.commitsOutlastMerges();
        test.numbersOverCheckouts();
        test.numbersRunOut();
        test.checkoutFromAnyState();
        test.conflictsOutlastCalls();
        test.conflictsGiveWay();
        test.conflictsLeaveTheTree();
        test.conflictsMended();
        test.mergeLooksAtTheTree();
        test.mergeWhileTakenIn();
        test.parentsAfterMerges();
        test.mergedFromAbove();
        test.severalBases();
        test.baseThatMergeTakes();
        test.rowsOverMerges();
        test.rowsWithMovedOnes();
        test.readsOfTheWorkingTree();
        test.check.end();
    }

    private void treeIs(String what, GroveMerge x, String due) {
        check.same(what, Groves.tree(x), due);
    }

    private void stateIs(String what, GroveMerge x, int commits, int head, int taken) {
        check.is(what + ", how many commits", commits, () -> x.state(0));
        check.is(what + ", the head", head, () -> x.state(1));
        check.is(what + ", what is taken in", taken, () -> x.state(2));
    }

    private void parentsAre(String what, GroveMerge x, int commit, int first, int second) {
        check.is(what + ", its first parent", first, () -> x.above(commit, 0));
        check.is(what + ", its second parent", second, () -> x.above(commit, 1));
    }

    /** The children of the root, as a text. */
    private static String row(GroveMerge x) {
        StringBuilder text = new StringBuilder();
        int children = x.about(0, 2);
        for (int i = 0; i < children; i++) {
            text.append(i == 0 ? "" : " ").append(x.child(0, i));
        }
        return text.toString();
    }

    /** Each kind of change, of commit, checkout and merge, with conflicts and without. */
    private static final Groves.Use[] STORY = {
        x -> x.insert(0, 0, 1), x -> x.insert(0, 1, 2), x -> x.commit(), x -> x.relabel(1, 3), x -> x.insert(1, 0, 4),
        x -> x.commit(), x -> x.checkout(1), x -> x.relabel(1, 5), x -> x.delete(2), x -> x.commit(), x -> x.merge(2),
        x -> x.checkout(2), x -> x.merge(1), x -> x.move(3, 2, 0), x -> x.commit(),
    };

    private void refusedBetween() {
        check.sentence("A call that throws changes nothing");
        GroveMerge left = new GroveMerge();
        GroveMerge pestered = new GroveMerge();
        for (int i = 0; i < STORY.length; i++) {
            STORY[i].on(left);
            for (int j = 0; j < NEVER.length; j++) {
                Groves.Use never = NEVER[j];
                String answer = Check.outcome(() -> never.on(pestered));
                check.same("call " + j + " before step " + i + " throws", answer.startsWith("throws."), true);
            }
            STORY[i].on(pestered);
        }
        treeIs("at the end", pestered, "0:0(1:3 2:2(3:4))");
        stateIs("at the end", pestered, 5, 4, NONE);
        check.same("all of it", Groves.wholeState(pestered), Groves.wholeState(left));
    }

    private void commitsOutlastChanges() {
        check.sentence("each has a tree, which never changes");
        Groves.Use[] changes = {
            x -> x.insert(0, 0, 4), x -> x.insert(6, 0, 4), x -> x.delete(6), x -> x.delete(1), x -> x.delete(2),
            x -> x.move(3, 0, 0), x -> x.move(1, 5, 0), x -> x.move(2, 0, 0), x -> x.relabel(0, 5), x -> x.relabel(6, 0),
        };
        GroveMerge x = Groves.sample();
        x.commit();
        for (int i = 0; i < changes.length; i++) {
            changes[i].on(x);
            check.is("its distance while the tree is changed by " + i, 6, () -> x.distance(0, 1));
            x.checkout(1);
            treeIs("taken up after change " + i, x, SAMPLE);
            changes[i].on(x);
            x.checkout(0);
            treeIs("the first one after change " + i, x, "0:0");
            x.checkout(1);
        }
        check.is("a commit of it is the same", 2, x::commit);
        check.is("the distance of the two", 0, () -> x.distance(1, 2));
        x.delete(1);
        x.checkout(2);
        treeIs("the second one", x, SAMPLE);
    }

    private void commitsOutlastMerges() {
        check.sentence("each has a tree, which never changes");
        GroveMerge x = Groves.lines(Groves.sample(), y -> y.relabel(3, 0), y -> y.delete(2));
        String theirs = "0:0(1:1(3:0 4:3(6:5)) 2:1(5:2))";
        String ours = "0:0(1:1(3:2 4:3(6:5)))";
        x.merge(2);
        x.move(6, 0, 0);
        x.insert(0, 0, 0);
        x.checkout(3);
        treeIs("the head, after a merge and changes", x, ours);
        x.merge(2);
        x.relabel(4, 4);
        x.checkout(2);
        treeIs("what was merged, after a merge and a change", x, theirs);
        x.checkout(1);
        treeIs("the base, after a merge and a change", x, SAMPLE);
        x.merge(3);
        x.commit();
        x.relabel(1, 5);
        x.checkout(4);
        treeIs("a committed merge", x, ours);
        x.checkout(1);
        x.relabel(3, 1);
        x.commit();
        check.is("a merge with a conflict", 1, () -> x.merge(2));
        x.delete(1);
        x.checkout(5);
        treeIs("the head, after a conflict and a change", x, "0:0(1:1(3:1 4:3(6:5)) 2:1(5:2))");
        x.checkout(2);
        treeIs("what was merged, after a conflict and a change", x, theirs);
        x.checkout(1);
        treeIs("the base, after all", x, SAMPLE);
        x.checkout(3);
        treeIs("the other line, after all", x, ours);
    }

    private void numbersOverCheckouts() {
        check.sentence("(their numbers are never given again)");
        GroveMerge x = Groves.sample();
        x.commit();
        check.is("delete four", 4, () -> x.delete(1));
        check.is("insert after that", 7, () -> x.insert(0, 0, 0));
        x.checkout(1);
        treeIs("what was deleted is back by its numbers", x, SAMPLE);
        check.fails("what was never committed is not", MISSING, () -> x.about(7, 0));
        check.is("how many were made", 8, () -> x.nodes(true));
        check.is("insert after a checkout", 8, () -> x.insert(6, 0, 0));
        x.commit();
        x.checkout(0);
        check.is("how many the first tree has", 1, () -> x.nodes(false));
        check.is("insert where no other is", 9, () -> x.insert(0, 0, 1));
        x.commit();
        check.is("merge", 0, () -> x.merge(2));
        treeIs("each keeps its number in a merge", x, "0:0(1:1(3:2 4:3(6:5(8:0))) 2:1(5:2) 9:1)");
        check.is("insert after a merge", 10, () -> x.insert(9, 0, 3));
        check.is("delete the last ones", 2, () -> x.delete(9));
        x.checkout(1);
        Check.answer(() -> x.insert(0, 0, 6));
        check.is("a call that throws takes no number", 11, () -> x.insert(0, 0, 0));
        check.is("how many were made at last", 12, () -> x.nodes(true));
    }

    private void numbersRunOut() {
        check.sentence("24 at most in all");
        GroveMerge x = new GroveMerge();
        for (int i = 0; i < 12; i++) {
            x.insert(i, 0, 0);
        }
        x.commit();
        x.checkout(0);
        for (int i = 0; i < 11; i++) {
            int due = 13 + i;
            check.is("insert on another line", due, () -> x.insert(0, 0, 1));
        }
        check.fails("a 25th", FULL, () -> x.insert(0, 0, 0));
        x.delete(23);
        check.fails("a 25th after a delete", FULL, () -> x.insert(0, 0, 0));
        x.commit();
        x.checkout(1);
        check.fails("a 25th in another tree", FULL, () -> x.insert(0, 0, 0));
        check.is("merge the lines", 0, () -> x.merge(2));
        check.is("what both have", 23, () -> x.nodes(false));
        check.fails("a 25th in the merged tree", FULL, () -> x.insert(0, 0, 0));
        x.checkout(0);
        check.fails("a 25th beside the root alone", FULL, () -> x.insert(0, 0, 0));
        check.is("how many were made", 24, () -> x.nodes(true));
    }

    private void checkoutFromAnyState() {
        check.sentence("The working tree (whatever was changed in it) becomes that of a commit, which becomes the head; "
                + "nothing is taken in.");
        Groves.Use[] states = {
            x -> x.insert(0, 0, 0), x -> x.delete(1), x -> x.move(6, 0, 0), x -> x.relabel(0, 5), x -> x.checkout(0),
            x -> x.merge(1), x -> x.merge(2), x -> x.merge(3), withDelete(x -> x.merge(1)), withDelete(x -> x.merge(2)),
            withDelete(x -> x.merge(3)), withDelete(x -> x.checkout(2)), x -> x.merge(4),
        };
        String[] trees = {"0:0", SAMPLE, "0:0(1:1(3:0 4:3(6:5)) 2:1(5:2))", "0:0(1:1(3:1 4:3(6:5)) 2:1(5:2))"};
        for (int i = 0; i < states.length; i++) {
            for (int j = 0; j < trees.length; j++) {
                GroveMerge x = Groves.lines(Groves.sample(), y -> y.relabel(3, 0), y -> y.relabel(3, 1));
                int commit = j;
                Groves.Use state = states[i];
                String what = "checkout(" + j + ") from state " + i;
                Check.outcome(() -> state.on(x));
                check.done(what, () -> x.checkout(commit));
                treeIs(what, x, trees[j]);
                stateIs(what, x, 4, commit, NONE);
                check.is(what + ", then a merge of it", 0, () -> x.merge(commit));
            }
        }
    }

    private static Groves.Use withDelete(Groves.Use before) {
        return x -> {
            before.on(x);
            x.delete(4);
        };
    }

    /** Commit 2 has another label for 3 and another parent for 6 than the head, 3; both differ from 1. */
    private static GroveMerge torn() {
        return Groves.lines(Groves.sample(), x -> {
            x.relabel(3, 0);
            x.move(6, 2, 0);
        }, x -> {
            x.relabel(3, 1);
            x.move(6, 0, 0);
        });
    }

    private void tornStill(String what, GroveMerge x) {
        check.is(what + ", conflict 0", LABELS + 3, () -> x.conflict(0));
        check.is(what + ", conflict 1", PARENTS + 6, () -> x.conflict(1));
        check.fails(what + ", conflict 2", MISSING, () -> x.conflict(2));
    }

    private void conflictsOutlastCalls() {
        check.sentence("Of conflict k of the latest merge that did not throw");
        Groves.Use[] calls = {
            x -> x.state(0), x -> x.above(3, 0), x -> x.base(2, 3), x -> x.distance(2, 3), x -> x.about(6, 1),
            x -> x.child(0, 0), x -> x.nodes(true), x -> x.count(2 + 4 * 6), x -> x.find(2 + 4 * 6, 3), x -> x.alike(5),
            x -> x.conflict(1), x -> x.relabel(3, 0), x -> x.merge(1), x -> x.insert(0, 0, 0), x -> x.move(6, 2, 0),
            x -> x.delete(3), x -> x.delete(6), x -> x.commit(), x -> x.checkout(3), x -> x.checkout(0), x -> x.commit(),
        };
        GroveMerge x = torn();
        check.is("merge", 2, () -> x.merge(2));
        for (int i = 0; i < calls.length; i++) {
            Groves.Use call = calls[i];
            Check.outcome(() -> call.on(x));
            tornStill("after call " + i, x);
        }
        for (int i = 0; i < NEVER.length; i++) {
            Groves.Use never = NEVER[i];
            Check.outcome(() -> never.on(x));
            tornStill("after refused call " + i, x);
        }
        stateIs("after all", x, 6, 5, NONE);
    }

    private void conflictsGiveWay() {
        check.sentence("Of conflict k of the latest merge that did not throw");
        GroveMerge x = torn();
        x.checkout(1);
        x.relabel(3, 5);
        x.commit();
        x.checkout(3);
        x.merge(2);
        tornStill("after the first merge", x);
        check.is("a merge with one conflict", 1, () -> x.merge(4));
        check.is("its only one", LABELS + 3, () -> x.conflict(0));
        check.fails("none is left of the merge before", MISSING, () -> x.conflict(1));
        Check.answer(() -> x.merge(5));
        check.is("after one that throws", LABELS + 3, () -> x.conflict(0));
        check.is("a merge without conflicts", 0, () -> x.merge(1));
        check.fails("it has none", MISSING, () -> x.conflict(0));
        check.fails("a merge while one is taken in", UNREADY, () -> x.merge(2));
        check.fails("it leaves none", MISSING, () -> x.conflict(0));
        x.checkout(2);
        check.is("a merge the other way", 2, () -> x.merge(3));
        tornStill("after a merge the other way", x);
    }

    private void conflictsLeaveTheTree() {
        check.sentence("(With conflicts the working tree stays.)");
        staysAtConflict("kind 1", x -> x.delete(3), x -> x.relabel(3, 0), 1, 35);
        staysAtConflict("kind 2", x -> x.relabel(3, 0), x -> x.relabel(3, 1), 1, 67);
        staysAtConflict("kind 3", x -> x.move(6, 2, 0), x -> x.move(6, 0, 0), 1, 102);
        staysAtConflict("kind 4", x -> x.delete(5), x -> x.insert(5, 0, 0), 1, 136);
        staysAtConflict("kind 5", x -> x.move(1, 2, 0), x -> x.move(2, 1, 0), 6, 161);
    }

    /** Their line does more, of which a merge with conflicts must take over nothing. */
    private void staysAtConflict(String what, Groves.Use theirs, Groves.Use ours, int conflicts, int first) {
        GroveMerge x = Groves.lines(Groves.sample(), y -> {
            y.insert(0, 0, 3);
            y.relabel(4, 0);
            theirs.on(y);
        }, ours);
        String before = Groves.tree(x);
        check.is(what + ", merge", conflicts, () -> x.merge(2));
        check.is(what + ", the first conflict", first, () -> x.conflict(0));
        check.same(what + ", the tree", Groves.tree(x), before);
        stateIs(what + ", after the merge", x, 4, 3, NONE);
        check.is(what + ", the same merge again", conflicts, () -> x.merge(2));
        check.is(what + ", commit", 4, x::commit);
        parentsAre(what, x, 4, 3, NONE);
        check.is(what + ", nothing was changed", 0, () -> x.distance(3, 4));
        check.is(what + ", what the two have in common", 1, () -> x.base(4, 2));
        check.is(what + ", the same merge from the new head", conflicts, () -> x.merge(2));
    }

    private void conflictsMended() {
        check.sentence("Without conflicts it is taken in then.");
        GroveMerge x = torn();
        x.merge(2);
        x.relabel(3, 0);
        check.fails("merge before the commit", UNREADY, () -> x.merge(2));
        x.commit();
        check.is("merge with one of two mended", 1, () -> x.merge(2));
        check.is("the other one", PARENTS + 6, () -> x.conflict(0));
        x.move(6, 2, 0);
        x.commit();
        check.is("merge with both mended", 0, () -> x.merge(2));
        stateIs("then", x, 6, 5, 2);
        treeIs("the merged tree", x, "0:0(1:1(3:0 4:3) 2:1(6:5 5:2))");
        x.commit();
        parentsAre("the merge's commit", x, 6, 5, 2);
        parentsAre("one that mended", x, 5, 4, NONE);
        check.is("what they have in common now", 2, () -> x.base(6, 2));
        check.is("merge again what is in it", 0, () -> x.merge(2));
    }

    private void mergeLooksAtTheTree() {
        check.sentence("IllegalStateException when the working tree is not the head's (another label, parent, place or node)");
        GroveMerge x = Groves.sample();
        x.commit();
        thereAndBack("another label", x, y -> y.relabel(6, 1), y -> y.relabel(6, 5));
        thereAndBack("another label of the root", x, y -> y.relabel(0, 3), y -> y.relabel(0, 0));
        thereAndBack("another place", x, y -> y.move(3, 1, 1), y -> y.move(3, 1, 0));
        thereAndBack("another place with all below", x, y -> y.move(2, 0, 0), y -> y.move(2, 0, 1));
        thereAndBack("another parent", x, y -> y.move(6, 5, 0), y -> y.move(6, 4, 0));
        thereAndBack("another parent in the same order", x, y -> y.move(6, 1, 2), y -> y.move(6, 4, 0));
        thereAndBack("another parent in the same order, the last", x, y -> y.move(5, 0, 2), y -> y.move(5, 2, 0));
        thereAndBack("a node more", x, y -> y.insert(5, 0, 0), y -> y.delete(y.nodes(true) - 1));
        thereAndBack("a node less", x, y -> y.delete(6), y -> y.checkout(1));
        thereAndBack("another node in one's place", x, y -> {
            y.delete(6);
            y.insert(4, 0, 5);
        }, y -> y.commit());
    }

    private void thereAndBack(String what, GroveMerge x, Groves.Use there, Groves.Use back) {
        there.on(x);
        check.fails(what, UNREADY, () -> x.merge(0));
        check.is(what + ", nothing is taken in", NONE, () -> x.state(2));
        back.on(x);
        check.is(what + ", and back", 0, () -> x.merge(0));
        x.checkout(x.state(1));
    }

    private void mergeWhileTakenIn() {
        check.sentence("or something is taken in");
        GroveMerge x = Groves.lines(Groves.sample(), y -> y.relabel(3, 0), y -> y.relabel(5, 0));
        String head = Groves.tree(x);
        check.is("merge", 0, () -> x.merge(2));
        check.fails("merge the same again", UNREADY, () -> x.merge(2));
        x.relabel(3, 2);
        treeIs("the head's tree again, by hand", x, head);
        check.fails("merge then", UNREADY, () -> x.merge(2));
        check.fails("no such commit comes first", MISSING, () -> x.merge(4));
        check.is("what is taken in", 2, () -> x.state(2));
        x.checkout(3);
        check.is("merge the head", 0, () -> x.merge(3));
        treeIs("the head's tree as it was", x, head);
        check.fails("merge while the head is taken in", UNREADY, () -> x.merge(2));
        x.commit();
        check.is("merge after the commit", 0, () -> x.merge(2));
        stateIs("then", x, 5, 4, 2);
    }

    private void parentsAfterMerges() {
        check.sentence("its parents are the head and what is taken in, if anything is");
        GroveMerge x = Groves.lines(Groves.sample(), y -> y.relabel(3, 0), y -> y.relabel(5, 0));
        x.merge(2);
        x.delete(1);
        check.is("commit a merge that was changed", 4, x::commit);
        parentsAre("a merge that was changed", x, 4, 3, 2);
        treeIs("its tree", x, "0:0(2:1(5:0))");
        x.commit();
        parentsAre("the next", x, 5, 4, NONE);
        x.merge(2);
        x.checkout(5);
        x.commit();
        parentsAre("after a checkout of the head", x, 6, 5, NONE);
        x.checkout(3);
        x.merge(2);
        x.checkout(2);
        x.commit();
        parentsAre("after a checkout of what was taken in", x, 7, 2, NONE);
        x.merge(7);
        x.commit();
        parentsAre("after a merge of the head", x, 8, 7, 7);
        x.merge(0);
        x.commit();
        parentsAre("after a merge of the first", x, 9, 8, 0);
        Check.answer(() -> x.merge(12));
        x.commit();
        parentsAre("after a merge that threw", x, 10, 9, NONE);
        check.is("merge the other line", 0, () -> x.merge(3));
        x.commit();
        parentsAre("the twelfth", x, 11, 10, 3);
        check.is("merge into the twelfth", 0, () -> x.merge(4));
        check.fails("commit a thirteenth", FULL, x::commit);
        stateIs("then", x, 12, 11, 4);
        treeIs("the merged tree stays", x, "0:0(2:1(5:0))");
        parentsAre("the twelfth still", x, 11, 10, 3);
    }

    private void mergedFromAbove() {
        check.sentence("(it may be the head, or one from which the head comes)");
        GroveMerge x = Groves.sample();
        x.commit();
        x.delete(4);
        x.move(5, 1, 0);
        x.relabel(0, 4);
        x.commit();
        x.insert(1, 1, 3);
        x.move(2, 0, 0);
        x.commit();
        String head = "0:4(2:1 1:1(5:2 7:3 3:2))";
        for (int i = 0; i <= 3; i++) {
            int above = i;
            check.is("merge " + i, 0, () -> x.merge(above));
            treeIs("the head's tree as it is, after " + i, x, head);
            check.is("which is taken in", above, () -> x.state(2));
            x.checkout(3);
        }
        x.checkout(1);
        check.is("merge one that comes from the head", 0, () -> x.merge(3));
        treeIs("what the head had stands in the head's order", x, "0:4(1:1(5:2 7:3 3:2) 2:1)");
    }

    /** 1, 2 and 3 stand over 0, and in 4 to 11 they are put together in several ways. */
    private static GroveMerge woven() {
        GroveMerge x = new GroveMerge();
        for (int i = 1; i <= 3; i++) {
            x.checkout(0);
            x.insert(0, 0, i);
            x.commit();
        }
        int[][] merges = {{1, 2}, {4, 3}, {2, 1}, {6, 3}, {3, 2}};
        for (int[] merge : merges) {
            x.checkout(merge[0]);
            x.merge(merge[1]);
            x.commit();
        }
        x.checkout(5);
        x.commit();
        x.checkout(7);
        x.merge(5);
        x.commit();
        x.checkout(8);
        x.merge(10);
        x.commit();
        return x;
    }

    private void severalBases() {
        check.sentence("their BASE is the least of those common ones to which one can't come from another common one");
        int[][] due = {
            {4, 6, 1}, {5, 7, 1}, {4, 7, 1}, {5, 6, 1}, {9, 7, 1}, {9, 6, 1}, {4, 8, 2}, {5, 8, 2}, {6, 8, 2}, {7, 8, 2},
            {9, 8, 2}, {10, 8, 2}, {1, 8, 0}, {4, 3, 0}, {1, 2, 0}, {8, 3, 3}, {5, 3, 3}, {7, 3, 3}, {4, 5, 4}, {10, 4, 4},
            {9, 10, 5}, {11, 9, 5}, {10, 6, 6}, {11, 7, 7}, {11, 8, 8}, {11, 10, 10}, {11, 1, 1}, {11, 11, 11},
        };
        GroveMerge x = woven();
        stateIs("at the end", x, 12, 11, NONE);
        parentsAre("the last", x, 11, 8, 10);
        for (int[] row : due) {
            check.is("base of " + row[0] + " and " + row[1], row[2], () -> x.base(row[0], row[1]));
            check.is("base of " + row[1] + " and " + row[0], row[2], () -> x.base(row[1], row[0]));
        }
        x.checkout(4);
        x.merge(6);
        check.is("a merge that is not committed is no way", 1, () -> x.base(4, 6));
    }

    private void baseThatMergeTakes() {
        check.sentence("let T be its tree, O the head's and B that of their base");
        GroveMerge x = Groves.crossed();
        x.checkout(4);
        x.relabel(1, 5);
        x.relabel(2, 5);
        x.commit();
        check.is("the base is the least", 1, () -> x.base(6, 3));
        check.is("merge: it has 1, but not 2", 1, () -> x.merge(3));
        check.is("so 2 has two labels", LABELS + 2, () -> x.conflict(0));
        x.checkout(4);
        x.delete(2);
        x.commit();
        check.is("merge, 2 was deleted", 0, () -> x.merge(3));
        treeIs("what the base has not comes back", x, "0:0(2:2 1:1)");
        x.checkout(4);
        x.delete(1);
        x.commit();
        check.is("merge, 1 was deleted", 0, () -> x.merge(3));
        treeIs("what the base has does not", x, "0:0(2:2)");
    }

    private void rowsOverMerges() {
        check.sentence("each one that is not among them yet comes right behind the one before it in T's row "
                + "(of those that are its children now), or to the front, if it is the first of that row");
        GroveMerge x = new GroveMerge();
        x.insert(0, 0, 0);
        x.insert(0, 1, 0);
        x.insert(0, 2, 0);
        Groves.lines(x, y -> {
            y.insert(0, 0, 0);
            y.insert(0, 2, 0);
            y.insert(0, 5, 0);
        }, y -> {
            y.move(3, 0, 0);
            y.insert(0, 3, 0);
        });
        check.same("our row", row(x), "3 1 2 7");
        check.is("merge", 0, () -> x.merge(2));
        check.same("with 4 1 5 2 3 6", row(x), "4 3 6 1 5 2 7");
        x.commit();
        x.checkout(2);
        x.delete(1);
        x.insert(0, 1, 0);
        x.commit();
        check.same("a third row", row(x), "4 8 5 2 3 6");
        x.checkout(4);
        check.is("merge the third", 0, () -> x.merge(5));
        check.same("with 4 8 5 2 3 6, where 1 is gone", row(x), "4 8 3 6 5 2 7");
        x.commit();
        x.checkout(5);
        check.is("merge into the third", 0, () -> x.merge(4));
        check.same("with 4 3 6 5 2 7", row(x), "4 8 5 2 7 3 6");
        x.commit();
        x.checkout(6);
        for (int i = 0; i <= 7; i++) {
            int commit = i;
            check.is("merge what brings nothing, " + i, 0, () -> x.merge(commit));
            check.same("our order, after " + i, row(x), "4 8 3 6 5 2 7");
            x.checkout(6);
        }
    }

    private void rowsWithMovedOnes() {
        check.sentence("(of those that are its children now)");
        GroveMerge x = new GroveMerge();
        x.insert(0, 0, 0);
        x.insert(0, 1, 0);
        x.insert(0, 2, 0);
        Groves.lines(x, y -> {
            y.insert(0, 2, 0);
            y.insert(0, 0, 0);
        }, y -> {
            y.move(2, 3, 0);
            y.move(1, 3, 1);
        });
        check.is("merge into the line that moved", 0, () -> x.merge(2));
        treeIs("4 comes behind 5, as 1 and 2 went", x, "0:0(5:0 4:0 3:0(2:0 1:0))");
        x.commit();
        x.checkout(2);
        check.is("merge the line that moved", 0, () -> x.merge(3));
        treeIs("a whole new row", x, "0:0(5:0 4:0 3:0(2:0 1:0))");
        x.commit();
        check.is("the two are the same", 0, () -> x.distance(4, 5));
        x.move(1, 0, 0);
        x.commit();
        check.is("the base is not the line that moved", 2, () -> x.base(6, 4));
        check.is("merge the first of them", 0, () -> x.merge(4));
        treeIs("1 is as in the base, so it goes again", x, "0:0(5:0 4:0 3:0(2:0 1:0))");
    }

    private void readsOfTheWorkingTree() {
        check.sentence("The first node of the working tree, in the document order, that is alike a node.");
        int all = 2 + 4 * 6;
        GroveMerge x = Groves.sample();
        x.commit();
        check.is("alike(5) at first", 3, () -> x.alike(5));
        x.relabel(3, 4);
        check.is("alike(5) after a relabel", 5, () -> x.alike(5));
        x.checkout(1);
        check.is("alike(5) after a checkout", 3, () -> x.alike(5));
        x.delete(4);
        check.is("alike(2) after a delete", 1, () -> x.alike(2));
        x.move(2, 0, 0);
        check.is("alike(1) after a move", 2, () -> x.alike(1));
        check.is("what a path finds then", 5, () -> x.find(all, 1));
        x.checkout(0);
        check.is("what a path finds in the first tree", 0, () -> x.count(all));
        x.merge(1);
        check.is("what a path finds in a merged tree", 6, () -> x.count(all));
        check.is("the last of them", 5, () -> x.find(all, 5));
        check.is("its number in the order", 6, () -> x.about(5, 3));
        check.is("alike(5) in a merged tree", 3, () -> x.alike(5));
        x.checkout(0);
        check.fails("alike(5) in the first tree", MISSING, () -> x.alike(5));
    }
}
