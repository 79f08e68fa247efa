import java.util.NoSuchElementException;

/** The boundary cases that the document names for merging: what stays, what clashes, and how rows are put together. */
final class MergeEdgeTest {
    private static final Class<NoSuchElementException> MISSING = NoSuchElementException.class;
    private static final Groves.Use NOTHING = x -> { };
    /** What a conflict's number is made of, beside its node. */
    private static final int GONE = 32;
    private static final int LABELS = 64;
    private static final int PARENTS = 96;
    private static final int NO_PARENT = 128;
    private static final int NO_ROOT = 160;

    private final Check check = new Check("MergeEdgeTest");

    public static void main(String[] args) {
        MergeEdgeTest test = new MergeEdgeTest();
        test.inBoth();
        test.inOneAndNew();
        test.inOneAndAsBefore();
        test.inOneAndChanged();
        test.labelOfOneOrBoth();
        test.labelOfTheOther();
        test.twoLabels();
        test.parents();
        test.leastKind();
        test.parentGone();
        test.parentGoneComesSecond();
        test.noWayToRoot();
        test.noWayToRootComesLast();
        test.orderOfConflicts();
        test.mergedTree();
        test.fullMergedTree();
        test.rowOfOurs();
        test.behindTheOneBefore();
        test.toTheFront();
        test.whatIsMerged();
        test.whichCommits();
        test.takenIn();
        test.treeStays();
        test.latestMerge();
        test.lastNode();
        test.mostConflicts();
        test.check.end();
    }

    private static GroveMerge lines(Groves.Use theirs, Groves.Use ours) {
        return Groves.lines(Groves.sample(), theirs, ours);
    }

    /** Merges commit 2 into the head; the tree is written as by Groves.tree. */
    private void merges(String what, GroveMerge x, String due) {
        check.is(what, 0, () -> x.merge(2));
        check.same(what + ", the tree", Groves.tree(x), due);
        check.is(what + ", taken in", 2, () -> x.state(2));
        check.fails(what + ", no conflict", MISSING, () -> x.conflict(0));
    }

    /** The same both ways, where the rows of the two lines do not tell which is ours. */
    private void mergesBothWays(String what, Groves.Use one, Groves.Use two, String due) {
        merges(what, lines(one, two), due);
        merges(what + ", turned", lines(two, one), due);
    }

    private void clashes(String what, GroveMerge x, int commit, int... due) {
        String before = Groves.tree(x);
        check.is(what, due.length, () -> x.merge(commit));
        for (int i = 0; i < due.length; i++) {
            int k = i;
            check.is(what + ", conflict " + i, due[i], () -> x.conflict(k));
        }
        check.fails(what + ", no more", MISSING, () -> x.conflict(due.length));
        check.same(what + ", the tree", Groves.tree(x), before);
        check.is(what + ", taken in", GroveMerge.NONE, () -> x.state(2));
    }

    private void clashesBothWays(String what, Groves.Use one, Groves.Use two, int... due) {
        GroveMerge x = lines(one, two);
        clashes(what, x, 2, due);
        x.checkout(2);
        clashes(what + ", turned", x, 3, due);
    }

    private void inBoth() {
        check.sentence("If it is in both, it stays.");
        mergesBothWays("nothing was done", NOTHING, NOTHING, "0:0(1:1(3:2 4:3(6:5)) 2:1(5:2))");
        GroveMerge x = Groves.crossed();
        x.checkout(3);
        check.is("in both, and not in the base", 0, () -> x.merge(4));
        check.same("the tree", Groves.tree(x), "0:0(2:2 1:1)");
    }

    private void inOneAndNew() {
        check.sentence("If it is in just one of them, and not in B, it stays");
        mergesBothWays("a new one", x -> x.insert(6, 0, 4), NOTHING, "0:0(1:1(3:2 4:3(6:5(7:4))) 2:1(5:2))");
        GroveMerge x = Groves.crossed();
        x.checkout(4);
        x.delete(2);
        x.commit();
        check.is("one that we deleted, and the base has not", 0, () -> x.merge(3));
        check.is("it stays", 1, () -> x.about(2, 3));
        x.checkout(3);
        check.is("one that they deleted, and the base has not", 0, () -> x.merge(6));
        check.is("it stays, too", 1, () -> x.about(2, 3));
    }

    private void inOneAndAsBefore() {
        check.sentence("if it is in just one, and in B, too, with the same label and the same parent, it does not stay");
        mergesBothWays("deleted", x -> x.delete(3), NOTHING, "0:0(1:1(4:3(6:5)) 2:1(5:2))");
        mergesBothWays("deleted with all below", x -> x.delete(1), NOTHING, "0:0(2:1(5:2))");
        mergesBothWays("deleted by both", x -> x.delete(3), x -> x.delete(3), "0:0(1:1(4:3(6:5)) 2:1(5:2))");
        mergesBothWays("deleted, with another place", x -> x.delete(3), x -> x.move(3, 1, 1), "0:0(1:1(4:3(6:5)) 2:1(5:2))");
        mergesBothWays("deleted, with a child less", x -> x.delete(4), x -> x.delete(6), "0:0(1:1(3:2) 2:1(5:2))");
        mergesBothWays("deleted, with another label above", x -> x.delete(3), x -> x.relabel(1, 0), "0:0(1:0(4:3(6:5)) 2:1(5:2))");
        mergesBothWays("deleted, with another parent above", x -> x.delete(6), x -> x.move(4, 0, 0), "0:0(4:3 1:1(3:2) 2:1(5:2))");
        mergesBothWays("deleted, changed and changed back", x -> x.delete(3), x -> {
            x.relabel(3, 0);
            x.move(3, 2, 0);
            x.relabel(3, 2);
            x.move(3, 1, 1);
        }, "0:0(1:1(4:3(6:5)) 2:1(5:2))");
        GroveMerge again = lines(x -> x.delete(4), x -> x.delete(6));
        again.checkout(1);
        again.merge(1);
        again.checkout(3);
        merges("deleted, though all stayed in a merge before", again, "0:0(1:1(3:2) 2:1(5:2))");
    }

    private void inOneAndChanged() {
        check.sentence("with another one, it stays, and that is a conflict of kind 1");
        clashesBothWays("another label", x -> x.delete(3), x -> x.relabel(3, 0), GONE + 3);
        clashesBothWays("another parent", x -> x.delete(3), x -> x.move(3, 2, 0), GONE + 3);
        clashesBothWays("another label and parent", x -> x.delete(3), x -> {
            x.relabel(3, 0);
            x.move(3, 2, 0);
        }, GONE + 3);
        clashesBothWays("below what was deleted", x -> x.delete(4), x -> x.relabel(6, 0), GONE + 6);
        clashesBothWays("moved out of what was deleted", x -> x.delete(4), x -> x.move(6, 0, 0), GONE + 6);
        clashesBothWays("all that was deleted", x -> x.delete(2), x -> {
            x.relabel(2, 0);
            x.relabel(5, 0);
        }, GONE + 2, GONE + 5);
    }

    private void labelOfOneOrBoth() {
        check.sentence("The label of a node that stays is that which it has in O or T, if just one has it or both have the same.");
        mergesBothWays("just one has it", x -> x.insert(3, 0, 5), NOTHING, "0:0(1:1(3:2(7:5) 4:3(6:5)) 2:1(5:2))");
        mergesBothWays("both have the same", x -> x.relabel(3, 4), x -> x.relabel(3, 4), "0:0(1:1(3:4 4:3(6:5)) 2:1(5:2))");
        mergesBothWays("the roots have the same", x -> x.relabel(0, 4), x -> x.relabel(0, 4), "0:4(1:1(3:2 4:3(6:5)) 2:1(5:2))");
        GroveMerge x = Groves.crossed();
        x.checkout(3);
        x.relabel(2, 5);
        x.commit();
        x.checkout(4);
        x.relabel(2, 5);
        x.commit();
        check.is("both have the same, and the base has it not", 0, () -> x.merge(6));
        check.is("its label", 5, () -> x.about(2, 0));
    }

    private void labelOfTheOther() {
        check.sentence("Else it is that in T, if B has it with the label that it has in O, or that in O, if B has it with the label "
                + "that it has in T");
        String due = "0:0(1:1(3:5 4:3(6:5)) 2:1(5:2))";
        merges("that in T", lines(x -> x.relabel(3, 5), NOTHING), due);
        merges("that in O", lines(NOTHING, x -> x.relabel(3, 5)), due);
        merges("0 in T", lines(x -> x.relabel(3, 0), NOTHING), "0:0(1:1(3:0 4:3(6:5)) 2:1(5:2))");
        merges("the root's in T", lines(x -> x.relabel(0, 5), NOTHING), "0:5(1:1(3:2 4:3(6:5)) 2:1(5:2))");
        merges("the root's in O", lines(NOTHING, x -> x.relabel(0, 5)), "0:5(1:1(3:2 4:3(6:5)) 2:1(5:2))");
        mergesBothWays("one of each", x -> x.relabel(3, 0), x -> x.relabel(5, 0), "0:0(1:1(3:0 4:3(6:5)) 2:1(5:0))");
    }

    private void twoLabels() {
        check.sentence("otherwise it is a conflict of kind 2");
        clashesBothWays("two labels", x -> x.relabel(3, 0), x -> x.relabel(3, 1), LABELS + 3);
        clashesBothWays("two labels of the root", x -> x.relabel(0, 1), x -> x.relabel(0, 2), LABELS);
        GroveMerge x = Groves.crossed();
        x.checkout(4);
        x.relabel(2, 0);
        x.commit();
        clashes("one label changed, and the base has it not", x, 3, LABELS + 2);
        x.checkout(3);
        clashes("one label changed, and the base has it not, turned", x, 6, LABELS + 2);
    }

    private void parents() {
        check.sentence("So it is with its parent, where it is kind 3.");
        mergesBothWays("another one", x -> x.move(4, 5, 0), NOTHING, "0:0(1:1(3:2) 2:1(5:2(4:3(6:5))))");
        mergesBothWays("the same of both", x -> x.move(4, 5, 0), x -> x.move(4, 5, 0), "0:0(1:1(3:2) 2:1(5:2(4:3(6:5))))");
        merges("the same of both, other places", lines(x -> x.move(4, 2, 0), x -> x.move(4, 2, 1)), "0:0(1:1(3:2) 2:1(5:2 4:3(6:5)))");
        mergesBothWays("a new one", x -> {
            x.insert(2, 1, 0);
            x.move(4, 7, 0);
        }, x -> x.relabel(4, 0), "0:0(1:1(3:2) 2:1(5:2 7:0(4:0(6:5))))");
        clashesBothWays("two parents", x -> x.move(3, 2, 0), x -> x.move(3, 0, 0), PARENTS + 3);
        GroveMerge x = Groves.crossed();
        x.checkout(4);
        x.move(2, 1, 0);
        x.commit();
        clashes("one parent changed, and the base has it not", x, 3, PARENTS + 2);
        x.checkout(3);
        clashes("one parent changed, and the base has it not, turned", x, 6, PARENTS + 2);
    }

    private void leastKind() {
        check.sentence("Of these kinds only the least one counts for a node.");
        clashesBothWays("labels and parents", x -> {
            x.relabel(3, 0);
            x.move(3, 2, 0);
        }, x -> {
            x.relabel(3, 1);
            x.move(3, 0, 0);
        }, LABELS + 3);
        clashesBothWays("labels of one, parents of another", x -> {
            x.relabel(5, 0);
            x.move(3, 2, 0);
        }, x -> {
            x.relabel(5, 1);
            x.move(3, 0, 0);
        }, PARENTS + 3, LABELS + 5);
    }

    private void parentGone() {
        check.sentence("If there are no conflicts so far: it is a conflict of kind 4 when the parent of a node that stays does not stay");
        clashesBothWays("a new one", x -> x.delete(4), x -> x.insert(4, 0, 0), NO_PARENT + 7);
        clashesBothWays("a new one below one deleted along", x -> x.delete(4), x -> x.insert(6, 0, 0), NO_PARENT + 7);
        clashesBothWays("one that came there", x -> x.delete(4), x -> x.move(5, 4, 0), NO_PARENT + 5);
        clashesBothWays("not what is below it", x -> x.delete(4), x -> {
            x.insert(4, 0, 0);
            x.insert(7, 0, 0);
            x.move(2, 7, 0);
        }, NO_PARENT + 7);
        clashesBothWays("several", x -> x.delete(1), x -> {
            x.insert(6, 0, 0);
            x.insert(3, 0, 0);
            x.move(2, 1, 0);
        }, NO_PARENT + 2, NO_PARENT + 7, NO_PARENT + 8);
    }

    private void parentGoneComesSecond() {
        check.sentence("If there are no conflicts so far: it is a conflict of kind 4");
        clashesBothWays("kind 1 elsewhere", x -> {
            x.delete(4);
            x.delete(5);
        }, x -> {
            x.insert(4, 0, 0);
            x.relabel(5, 0);
        }, GONE + 5);
        clashesBothWays("kind 2 elsewhere", x -> {
            x.delete(4);
            x.relabel(5, 0);
        }, x -> {
            x.insert(4, 0, 0);
            x.relabel(5, 1);
        }, LABELS + 5);
        clashesBothWays("kind 3 elsewhere", x -> {
            x.delete(4);
            x.move(5, 0, 0);
        }, x -> {
            x.insert(4, 0, 0);
            x.move(5, 1, 0);
        }, PARENTS + 5);
    }

    private void noWayToRoot() {
        check.sentence("if there are none of these either: of kind 5 when one does not come to the root from a node that stays "
                + "by going to parents");
        clashesBothWays("two below one another, with all below them", x -> x.move(1, 2, 0), x -> x.move(2, 1, 0),
                NO_ROOT + 1, NO_ROOT + 2, NO_ROOT + 3, NO_ROOT + 4, NO_ROOT + 5, NO_ROOT + 6);
        clashesBothWays("a ring of four, and no others", x -> x.move(4, 5, 0), x -> x.move(2, 6, 0),
                NO_ROOT + 2, NO_ROOT + 4, NO_ROOT + 5, NO_ROOT + 6);
        clashesBothWays("a new one below the ring", x -> x.move(4, 5, 0), x -> {
            x.insert(5, 0, 0);
            x.move(2, 6, 0);
        }, NO_ROOT + 2, NO_ROOT + 4, NO_ROOT + 5, NO_ROOT + 6, NO_ROOT + 7);
        mergesBothWays("no ring", x -> x.move(4, 5, 0), x -> x.move(2, 3, 0), "0:0(1:1(3:2(2:1(5:2(4:3(6:5))))))");
    }

    private void noWayToRootComesLast() {
        check.sentence("if there are none of these either: of kind 5");
        clashesBothWays("kind 4 elsewhere", x -> {
            x.delete(3);
            x.move(1, 2, 0);
        }, x -> {
            x.insert(3, 0, 0);
            x.move(2, 1, 0);
        }, NO_PARENT + 7);
        clashesBothWays("kind 2 of one in the ring", x -> {
            x.relabel(1, 0);
            x.move(1, 2, 0);
        }, x -> {
            x.relabel(1, 5);
            x.move(2, 1, 0);
        }, LABELS + 1);
    }

    private void orderOfConflicts() {
        check.sentence("Conflicts stand by the numbers of their nodes.");
        clashesBothWays("not by their kinds, nor by the order of the document", x -> {
            x.move(5, 0, 0);
            x.relabel(6, 0);
            x.delete(3);
            x.relabel(0, 1);
        }, x -> {
            x.move(5, 1, 0);
            x.relabel(6, 1);
            x.relabel(3, 1);
            x.relabel(0, 2);
        }, LABELS, GONE + 3, PARENTS + 5, LABELS + 6);
    }

    private void mergedTree() {
        check.sentence("Without conflicts the working tree becomes that of the nodes that stay, with these labels and parents.");
        merges("some of each", lines(x -> {
            x.delete(3);
            x.relabel(6, 0);
            x.move(5, 4, 0);
            x.insert(5, 0, 2);
        }, x -> {
            x.relabel(0, 5);
            x.move(4, 2, 0);
            x.insert(0, 0, 3);
            x.insert(4, 1, 1);
        }), "0:5(8:3 1:1 2:1(4:3(5:2(7:2) 6:0 9:1)))");
        GroveMerge x = lines(x1 -> x1.delete(1), NOTHING);
        merges("the order is that of the tree", x, "0:0(2:1(5:2))");
        check.is("its nodes", 3, () -> x.nodes(false));
        check.is("the number of the last", 2, () -> x.about(5, 3));
        check.fails("what does not stay is not in it", MISSING, () -> x.about(6, 3));
        check.is("what was made", 7, () -> x.nodes(true));
    }

    private void fullMergedTree() {
        check.sentence("Without conflicts the working tree becomes that of the nodes that stay");
        GroveMerge x = Groves.lines(new GroveMerge(), y -> {
            for (int i = 0; i < 11; i++) {
                y.insert(0, i, 1);
            }
        }, y -> {
            for (int i = 0; i < 12; i++) {
                y.insert(0, i, 2);
            }
        });
        check.is("eleven and twelve new ones", 0, () -> x.merge(2));
        check.is("all with the root", 24, () -> x.nodes(false));
        check.is("the first of theirs", 1, () -> x.child(0, 0));
        check.is("the last of theirs", 11, () -> x.child(0, 10));
        check.is("the first of ours", 12, () -> x.child(0, 11));
        check.is("the last of ours", 23, () -> x.child(0, 22));
        GroveMerge chain = Groves.lines(Groves.chain(), y -> y.move(12, 0, 0), y -> y.move(20, 0, 1));
        check.is("a full chain in three", 0, () -> chain.merge(2));
        check.is("the first", 12, () -> chain.child(0, 0));
        check.is("the second", 1, () -> chain.child(0, 1));
        check.is("the third", 20, () -> chain.child(0, 2));
        check.is("the last of the first", 8, () -> chain.about(19, 3));
        check.is("all are there", 24, () -> chain.nodes(false));
    }

    /** The root with four leaves, 1 to 4, all with the label 0. */
    private static GroveMerge row(Groves.Use theirs, Groves.Use ours) {
        GroveMerge x = new GroveMerge();
        for (int i = 0; i < 4; i++) {
            x.insert(0, i, 0);
        }
        return Groves.lines(x, theirs, ours);
    }

    private void rowOfOurs() {
        check.sentence("first those that are its children in O, in their order there");
        merges("our order", row(NOTHING, x -> x.move(1, 0, 3)), "0:0(2:0 3:0 4:0 1:0)");
        merges("not theirs", row(x -> x.move(1, 0, 3), NOTHING), "0:0(1:0 2:0 3:0 4:0)");
        merges("our order of two", row(x -> x.move(1, 0, 3), x -> x.move(4, 0, 0)), "0:0(4:0 1:0 2:0 3:0)");
        merges("without those that they deleted", row(x -> x.delete(2), x -> x.move(1, 0, 3)), "0:0(3:0 4:0 1:0)");
        merges("without those that they moved", row(x -> x.move(2, 3, 0), x -> x.move(1, 0, 3)), "0:0(3:0(2:0) 4:0 1:0)");
        merges("without all", row(x -> x.delete(1), x -> {
            x.delete(2);
            x.delete(3);
            x.delete(4);
        }), "0:0");
    }

    private void behindTheOneBefore() {
        check.sentence("each one that is not among them yet comes right behind the one before it in T's row "
                + "(of those that are its children now)");
        merges("last", row(x -> x.insert(0, 4, 1), NOTHING), "0:0(1:0 2:0 3:0 4:0 5:1)");
        merges("between", row(x -> x.insert(0, 2, 1), NOTHING), "0:0(1:0 2:0 5:1 3:0 4:0)");
        merges("where we moved the one before", row(x -> x.insert(0, 2, 1), x -> x.move(2, 0, 0)), "0:0(2:0 5:1 1:0 3:0 4:0)");
        merges("where they moved the one behind", row(x -> {
            x.move(3, 0, 0);
            x.insert(0, 1, 1);
        }, NOTHING), "0:0(1:0 2:0 3:0 5:1 4:0)");
        merges("several", row(x -> {
            x.insert(0, 2, 1);
            x.insert(0, 3, 1);
        }, NOTHING), "0:0(1:0 2:0 5:1 6:1 3:0 4:0)");
        merges("before ours at the same place", row(x -> x.insert(0, 2, 1), x -> x.insert(0, 2, 2)), "0:0(1:0 2:0 5:1 6:2 3:0 4:0)");
        merges("the one before being deleted", row(x -> x.insert(0, 2, 1), x -> x.delete(2)), "0:0(1:0 5:1 3:0 4:0)");
        merges("the one before being moved away", row(x -> x.insert(0, 2, 1), x -> x.move(2, 4, 0)), "0:0(1:0 5:1 3:0 4:0(2:0))");
        merges("one that came there", row(x -> x.move(4, 1, 0), NOTHING), "0:0(1:0(4:0) 2:0 3:0)");
        merges("one that came there, behind one", lines(x -> x.move(5, 1, 1), x -> x.move(3, 1, 1)),
                "0:0(1:1(4:3(6:5) 3:2 5:2) 2:1)");
    }

    private void toTheFront() {
        check.sentence("or to the front, if it is the first of that row");
        merges("the first", row(x -> x.insert(0, 0, 1), NOTHING), "0:0(5:1 1:0 2:0 3:0 4:0)");
        merges("before ours in front", row(x -> x.insert(0, 0, 1), x -> x.insert(0, 0, 2)), "0:0(5:1 6:2 1:0 2:0 3:0 4:0)");
        merges("those before it being deleted", row(x -> x.insert(0, 2, 1), x -> {
            x.delete(1);
            x.delete(2);
        }), "0:0(5:1 3:0 4:0)");
        merges("the one before it being moved away", row(x -> x.insert(0, 1, 1), x -> x.move(1, 4, 0)), "0:0(5:1 2:0 3:0 4:0(1:0))");
        merges("the first of a row of its own", row(x -> x.insert(4, 0, 1), NOTHING), "0:0(1:0 2:0 3:0 4:0(5:1))");
        merges("the first, ours being in the row", row(x -> x.insert(4, 0, 1), x -> x.insert(4, 0, 2)),
                "0:0(1:0 2:0 3:0 4:0(5:1 6:2))");
    }

    private void whatIsMerged() {
        check.sentence("let T be its tree, O the head's and B that of their base");
        GroveMerge x = row(y -> y.insert(0, 0, 1), y -> y.insert(0, 0, 2));
        merges("ours is the head", x, "0:0(5:1 6:2 1:0 2:0 3:0 4:0)");
        x.checkout(2);
        check.is("the other way", 0, () -> x.merge(3));
        check.same("ours is the head then", Groves.tree(x), "0:0(6:2 5:1 1:0 2:0 3:0 4:0)");
        GroveMerge later = row(y -> y.relabel(1, 1), y -> y.relabel(2, 2));
        later.merge(2);
        later.commit();
        later.relabel(1, 3);
        later.commit();
        later.checkout(2);
        later.relabel(2, 4);
        later.commit();
        clashes("the base is the one in common, not the first", later, 5, LABELS + 2);
        later.checkout(5);
        check.is("what was merged is known", 0, () -> later.merge(2));
        check.is("and not undone", 3, () -> later.about(1, 0));
    }

    private void whichCommits() {
        check.sentence("MERGES a commit (it may be the head, or one from which the head comes): how many conflicts there are.");
        GroveMerge x = lines(y -> y.relabel(3, 0), y -> y.delete(2));
        String due = "0:0(1:1(3:2 4:3(6:5)))";
        for (int commit : new int[] {3, 1, 0}) {
            x.checkout(3);
            check.is("merge " + commit, 0, () -> x.merge(commit));
            check.same("nothing changes by " + commit, Groves.tree(x), due);
            check.is("it is taken in, " + commit, commit, () -> x.state(2));
        }
        x.commit();
        check.is("over the head", 3, () -> x.above(4, 0));
        check.is("and over the one from which it comes", 0, () -> x.above(4, 1));
        x.checkout(1);
        check.is("merge one that comes from the head", 0, () -> x.merge(3));
        check.same("it is taken over", Groves.tree(x), due);
        GroveMerge first = new GroveMerge();
        check.is("merge the first into itself", 0, () -> first.merge(0));
        check.is("it is taken in", 0, () -> first.state(2));
    }

    private void takenIn() {
        check.sentence("Without conflicts it is taken in then.");
        GroveMerge x = lines(y -> y.relabel(3, 0), y -> y.relabel(5, 0));
        check.is("before", GroveMerge.NONE, () -> x.state(2));
        check.is("merge", 0, () -> x.merge(2));
        check.is("after", 2, () -> x.state(2));
        check.is("the head is as before", 3, () -> x.state(1));
        check.is("no commit was made", 4, () -> x.state(0));
        x.relabel(1, 5);
        check.is("after a change", 2, () -> x.state(2));
    }

    private void treeStays() {
        check.sentence("(With conflicts the working tree stays.)");
        GroveMerge x = lines(y -> {
            y.relabel(3, 0);
            y.insert(0, 0, 5);
            y.delete(5);
        }, y -> y.relabel(3, 1));
        String before = Groves.tree(x);
        check.is("merge", 1, () -> x.merge(2));
        check.same("the tree", Groves.tree(x), before);
        check.is("nothing is taken in", GroveMerge.NONE, () -> x.state(2));
        check.is("so that one may merge again", 1, () -> x.merge(2));
        check.is("and something else", 0, () -> x.merge(1));
        x.checkout(3);
        x.merge(2);
        x.commit();
        check.is("a commit then has one parent", GroveMerge.NONE, () -> x.above(4, 1));
    }

    private void latestMerge() {
        check.sentence("Of conflict k of the latest merge that did not throw");
        GroveMerge x = lines(y -> y.relabel(3, 0), y -> y.relabel(3, 1));
        check.fails("none before the first", MISSING, () -> x.conflict(0));
        x.merge(2);
        check.is("after it", LABELS + 3, () -> x.conflict(0));
        Check.answer(() -> x.merge(4));
        check.is("after one that threw for want of a commit", LABELS + 3, () -> x.conflict(0));
        x.relabel(1, 0);
        Check.answer(() -> x.merge(1));
        check.is("after one that threw by the changed tree", LABELS + 3, () -> x.conflict(0));
        x.commit();
        check.is("after a commit", LABELS + 3, () -> x.conflict(0));
        x.checkout(0);
        check.is("after a checkout", LABELS + 3, () -> x.conflict(0));
        x.merge(0);
        check.fails("after one without conflicts", MISSING, () -> x.conflict(0));
        x.checkout(4);
        x.merge(2);
        check.is("after the next", LABELS + 3, () -> x.conflict(0));
    }

    private void lastNode() {
        check.sentence("the node, and 32 times its kind");
        Groves.Use label = x -> x.relabel(23, 0);
        clashes("kind 1", Groves.lines(Groves.wide(), x -> x.delete(23), label), 2, 55);
        clashes("kind 2", Groves.lines(Groves.wide(), x -> x.relabel(23, 1), label), 2, 87);
        clashes("kind 3", Groves.lines(Groves.wide(), x -> x.move(23, 1, 0), x -> x.move(23, 2, 0)), 2, 119);
        clashes("kind 4", Groves.lines(Groves.wide(), x -> x.delete(22), x -> x.move(23, 22, 0)), 2, 151);
        clashes("kind 5", Groves.lines(Groves.wide(), x -> x.move(1, 23, 0), x -> x.move(23, 1, 0)), 2, 161, 183);
        clashes("the root, kind 2", Groves.lines(Groves.wide(), x -> x.relabel(0, 1), x -> x.relabel(0, 2)), 2, 64);
    }

    private static int[] codes(int kind, int from) {
        int[] codes = new int[24 - from];
        for (int i = 0; i < codes.length; i++) {
            codes[i] = kind + from + i;
        }
        return codes;
    }

    private static Groves.Use relabelAll(int more) {
        return x -> {
            for (int node = 0; node < 24; node++) {
                x.relabel(node, (x.about(node, 0) + more) % 6);
            }
        };
    }

    private static Groves.Use moveAllBelow(int parent) {
        return x -> {
            for (int node = 3; node < 24; node++) {
                x.move(node, parent, 0);
            }
        };
    }

    private void mostConflicts() {
        check.sentence("NODES are numbered 0, 1, .. in the order in which they are made, 24 at most in all");
        clashes("all but the root of kind 1", Groves.lines(Groves.chain(), x -> x.delete(1), relabelAll(1)), 2, codes(GONE, 1));
        clashes("all of kind 2", Groves.lines(Groves.wide(), relabelAll(1), relabelAll(2)), 2, codes(LABELS, 0));
        clashes("21 of kind 3", Groves.lines(Groves.wide(), moveAllBelow(1), moveAllBelow(2)), 2, codes(PARENTS, 3));
        GroveMerge leaf = new GroveMerge();
        leaf.insert(0, 0, 0);
        clashes("22 of kind 4", Groves.lines(leaf, x -> x.delete(1), x -> {
            for (int i = 0; i < 22; i++) {
                x.insert(1, 0, 0);
            }
        }), 2, codes(NO_PARENT, 2));
        GroveMerge two = Groves.wide();
        moveAllBelow(2).on(two);
        clashes("all but the root of kind 5", Groves.lines(two, x -> x.move(1, 2, 0), x -> x.move(2, 1, 0)), 2, codes(NO_ROOT, 1));
    }
}
