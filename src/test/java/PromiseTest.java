import java.util.NoSuchElementException;

/** For each promise of the document: ordinary inputs, the edges that it names, and wrong inputs. */
final class PromiseTest {
    private static final Class<NoSuchElementException> MISSING = NoSuchElementException.class;
    private static final Class<IndexOutOfBoundsException> OUTSIDE = IndexOutOfBoundsException.class;
    private static final Class<IllegalArgumentException> WRONG = IllegalArgumentException.class;
    private static final Class<UnsupportedOperationException> FULL = UnsupportedOperationException.class;
    private static final Class<IllegalStateException> UNREADY = IllegalStateException.class;
    private static final int[] FAR = {Integer.MIN_VALUE, -2, -1, 24, 25, 32, Integer.MAX_VALUE};

    private final Check check = new Check("PromiseTest");

    public static void main(String[] args) {
        PromiseTest test = new PromiseTest();
        test.newObject();
        test.insert();
        test.insertLimits();
        test.delete();
        test.move();
        test.relabel();
        test.commit();
        test.checkout();
        test.base();
        test.baseOfCrossedLines();
        test.merge();
        test.mergeGuards();
        test.mergeRows();
        test.mergeOverAnOlderBase();
        test.conflict();
        test.conflictOfParents();
        test.conflictOverAnOlderBase();
        test.about();
        test.child();
        test.nodes();
        test.count();
        test.find();
        test.alike();
        test.distance();
        test.state();
        test.above();
        test.fullTree();
        test.check.end();
    }

    private void treeIs(String what, GroveMerge x, String due) {
        check.same(what, Groves.tree(x), due);
    }

    private void newObject() {
        GroveMerge x = new GroveMerge();
        treeIs("a new tree", x, "0:0");
        check.is("new about(0, 1)", GroveMerge.NONE, () -> x.about(0, 1));
        check.is("new nodes(false)", 1, () -> x.nodes(false));
        check.is("new nodes(true)", 1, () -> x.nodes(true));
        check.is("new state(0)", 1, () -> x.state(0));
        check.is("new state(1)", 0, () -> x.state(1));
        check.is("new state(2)", GroveMerge.NONE, () -> x.state(2));
        check.is("new above(0, 0)", GroveMerge.NONE, () -> x.above(0, 0));
        check.is("new above(0, 1)", GroveMerge.NONE, () -> x.above(0, 1));
        check.fails("new conflict(0)", MISSING, () -> x.conflict(0));
        x.insert(0, 0, 3);
        x.relabel(0, 4);
        check.done("checkout(0)", () -> x.checkout(0));
        treeIs("commit 0 keeps its tree", x, "0:0");
        GroveMerge other = new GroveMerge();
        check.is("objects are apart", 1, () -> other.nodes(true));
    }

    private void insert() {
        GroveMerge x = new GroveMerge();
        check.is("insert the first", 1, () -> x.insert(0, 0, 5));
        check.is("insert in front", 2, () -> x.insert(0, 0, 0));
        check.is("insert between", 3, () -> x.insert(0, 1, 1));
        check.is("insert last", 4, () -> x.insert(0, 3, 2));
        check.is("insert deeper", 5, () -> x.insert(3, 0, 3));
        check.is("insert behind what has children", 6, () -> x.insert(0, 2, 4));
        check.is("insert last below", 7, () -> x.insert(3, 1, 4));
        String due = "0:0(2:0 3:1(5:3 7:4) 6:4 1:5 4:2)";
        treeIs("the tree of seven inserts", x, due);
        check.fails("insert, parent never made", MISSING, () -> x.insert(8, 0, 0));
        check.fails("insert, place below 0", OUTSIDE, () -> x.insert(0, -1, 0));
        check.fails("insert, place too high", OUTSIDE, () -> x.insert(0, 6, 0));
        check.fails("insert, place too high in a leaf", OUTSIDE, () -> x.insert(4, 1, 0));
        check.fails("insert, label -1", WRONG, () -> x.insert(0, 0, -1));
        check.fails("insert, label 6", WRONG, () -> x.insert(0, 0, 6));
        check.fails("insert, parent comes first", MISSING, () -> x.insert(9, 9, 9));
        check.fails("insert, place comes before label", OUTSIDE, () -> x.insert(0, 9, 9));
        for (int far : FAR) {
            check.fails("insert, parent " + far, MISSING, () -> x.insert(far, 0, 0));
            check.fails("insert, place " + far, OUTSIDE, () -> x.insert(0, far, 0));
            check.fails("insert, label " + far, WRONG, () -> x.insert(0, 0, far));
        }
        treeIs("what throws changes nothing", x, due);
        check.is("no number was lost", 8, () -> x.insert(0, 0, 0));
    }

    private void insertLimits() {
        GroveMerge x = new GroveMerge();
        for (int i = 1; i < 24; i++) {
            int due = i;
            check.is("insert a chain, node " + i, due, () -> x.insert(due - 1, 0, due % 6));
        }
        check.is("a chain's last rank", 23, () -> x.about(23, 3));
        check.fails("insert, 24 made", FULL, () -> x.insert(0, 0, 0));
        check.fails("insert, label comes before 24 made", WRONG, () -> x.insert(0, 0, 6));
        check.fails("insert, place comes before 24 made", OUTSIDE, () -> x.insert(0, 2, 0));
        check.fails("insert, parent comes before 24 made", MISSING, () -> x.insert(24, 0, 0));
        check.is("delete the chain", 23, () -> x.delete(1));
        check.fails("insert, 24 made and deleted", FULL, () -> x.insert(0, 0, 0));
        x.checkout(0);
        check.fails("insert, 24 made and left behind", FULL, () -> x.insert(0, 0, 0));
        check.is("24 were made", 24, () -> x.nodes(true));

        GroveMerge wide = new GroveMerge();
        for (int i = 1; i < 24; i++) {
            wide.insert(0, 0, 1);
        }
        check.is("23 children", 23, () -> wide.about(0, 2));
        check.is("the last of 23 children", 1, () -> wide.child(0, 22));
    }

    private void delete() {
        GroveMerge x = Groves.sample();
        check.fails("delete, never made", MISSING, () -> x.delete(7));
        check.fails("delete the root", WRONG, () -> x.delete(0));
        check.is("delete a leaf", 1, () -> x.delete(3));
        treeIs("after the leaf", x, "0:0(1:1(4:3(6:5)) 2:1(5:2))");
        check.is("delete with all below", 3, () -> x.delete(1));
        treeIs("after all below", x, "0:0(2:1(5:2))");
        check.fails("delete what was deleted", MISSING, () -> x.delete(1));
        check.fails("delete what was below it", MISSING, () -> x.delete(6));
        for (int far : FAR) {
            check.fails("delete " + far, MISSING, () -> x.delete(far));
        }
        check.is("numbers are never given again", 7, () -> x.insert(0, 0, 4));
        treeIs("after the next insert", x, "0:0(7:4 2:1(5:2))");
    }

    private void move() {
        GroveMerge x = Groves.sample();
        check.done("move in its own row, back", () -> x.move(1, 0, 1));
        treeIs("place is counted without it", x, "0:0(2:1(5:2) 1:1(3:2 4:3(6:5)))");
        check.done("move in its own row, forth", () -> x.move(1, 0, 0));
        check.done("move to where it is", () -> x.move(2, 0, 1));
        treeIs("as at first", x, "0:0(1:1(3:2 4:3(6:5)) 2:1(5:2))");
        check.done("move with all below", () -> x.move(4, 2, 0));
        treeIs("moved with all below", x, "0:0(1:1(3:2) 2:1(4:3(6:5) 5:2))");
        check.done("move below a leaf", () -> x.move(2, 3, 0));
        String due = "0:0(1:1(3:2(2:1(4:3(6:5) 5:2))))";
        treeIs("moved below a leaf", x, due);
        check.fails("move, node not there", MISSING, () -> x.move(7, 0, 0));
        check.fails("move, parent not there", MISSING, () -> x.move(1, 7, 0));
        check.fails("move the root", WRONG, () -> x.move(0, 1, 0));
        check.fails("move the root to itself", WRONG, () -> x.move(0, 0, 0));
        check.fails("move to itself", WRONG, () -> x.move(3, 3, 0));
        check.fails("move to its child", WRONG, () -> x.move(3, 2, 0));
        check.fails("move far below itself", WRONG, () -> x.move(1, 6, 0));
        check.fails("move, place below 0", OUTSIDE, () -> x.move(4, 0, -1));
        check.fails("move, place too high", OUTSIDE, () -> x.move(4, 0, 2));
        check.fails("move, place too high without it", OUTSIDE, () -> x.move(4, 2, 2));
        check.fails("move, node not there comes first", MISSING, () -> x.move(0, 9, 99));
        check.fails("move, below itself comes before place", WRONG, () -> x.move(1, 3, 99));
        for (int far : FAR) {
            check.fails("move node " + far, MISSING, () -> x.move(far, 0, 0));
            check.fails("move to parent " + far, MISSING, () -> x.move(1, far, 0));
            check.fails("move to place " + far, OUTSIDE, () -> x.move(4, 2, far));
        }
        treeIs("a move that throws changes nothing", x, due);
        check.done("move last in its own row", () -> x.move(4, 2, 1));
        treeIs("moved last", x, "0:0(1:1(3:2(2:1(5:2 4:3(6:5)))))");
    }

    private void relabel() {
        GroveMerge x = Groves.sample();
        check.done("relabel a leaf", () -> x.relabel(3, 5));
        check.done("relabel the root", () -> x.relabel(0, 2));
        check.done("relabel to 0", () -> x.relabel(4, 0));
        check.done("relabel to what it is", () -> x.relabel(1, 1));
        String due = "0:2(1:1(3:5 4:0(6:5)) 2:1(5:2))";
        treeIs("relabelled", x, due);
        check.fails("relabel, not there", MISSING, () -> x.relabel(7, 0));
        check.fails("relabel, not there comes first", MISSING, () -> x.relabel(7, 6));
        check.fails("relabel to 6", WRONG, () -> x.relabel(1, 6));
        check.fails("relabel to -1", WRONG, () -> x.relabel(1, -1));
        for (int far : FAR) {
            check.fails("relabel " + far, MISSING, () -> x.relabel(far, 0));
            check.fails("relabel to " + far, WRONG, () -> x.relabel(1, far));
        }
        treeIs("a relabel that throws changes nothing", x, due);
        x.delete(1);
        check.fails("relabel what was deleted", MISSING, () -> x.relabel(3, 0));
    }

    private void commit() {
        GroveMerge x = new GroveMerge();
        check.is("commit unchanged", 1, () -> x.commit());
        x.insert(0, 0, 1);
        check.is("commit changed", 2, () -> x.commit());
        treeIs("a commit leaves the working tree", x, "0:0(1:1)");
        x.relabel(1, 4);
        x.insert(1, 0, 2);
        x.checkout(2);
        treeIs("a commit's tree never changes", x, "0:0(1:1)");
        x.checkout(1);
        check.is("commit on another line", 3, () -> x.commit());
        check.is("its parent is the head", 1, () -> x.above(3, 0));
        check.is("it becomes the head", 3, () -> x.state(1));
        check.is("merge without conflicts", 0, () -> x.merge(2));
        x.insert(0, 1, 5);
        check.is("commit what is taken in and changed", 4, () -> x.commit());
        check.is("its first parent", 3, () -> x.above(4, 0));
        check.is("its second parent", 2, () -> x.above(4, 1));
        check.is("nothing is taken in", GroveMerge.NONE, () -> x.state(2));
        for (int i = 5; i < 12; i++) {
            check.is("commit " + i, i, x::commit);
            check.is("only one parent of " + i, GroveMerge.NONE, () -> x.above(x.state(1), 1));
        }
        check.fails("commit, 12 are there", FULL, () -> x.commit());
        check.is("the head after that", 11, () -> x.state(1));
        check.is("the commits after that", 12, () -> x.state(0));
        x.merge(1);
        check.fails("commit, 12 are there and one taken in", FULL, () -> x.commit());
        check.is("it is still taken in", 1, () -> x.state(2));
    }

    private void checkout() {
        GroveMerge x = Groves.sample();
        x.commit();
        x.delete(1);
        x.relabel(0, 3);
        x.move(5, 0, 0);
        check.done("checkout the head", () -> x.checkout(1));
        treeIs("changes are gone", x, "0:0(1:1(3:2 4:3(6:5)) 2:1(5:2))");
        check.is("the ranks are those of the commit", 4, () -> x.about(6, 3));
        check.done("checkout an older one", () -> x.checkout(0));
        treeIs("the older tree", x, "0:0");
        check.is("it is the head", 0, () -> x.state(1));
        x.merge(1);
        check.is("taken in before the checkout", 1, () -> x.state(2));
        check.fails("checkout, no such commit", MISSING, () -> x.checkout(2));
        check.is("taken in after one that throws", 1, () -> x.state(2));
        check.done("checkout takes nothing in", () -> x.checkout(0));
        check.is("taken in after it", GroveMerge.NONE, () -> x.state(2));
        treeIs("the merged tree is gone", x, "0:0");
        for (int far : FAR) {
            check.fails("checkout " + far, MISSING, () -> x.checkout(far));
        }
        check.is("the head is as before", 0, () -> x.state(1));
    }

    private void base() {
        GroveMerge x = new GroveMerge();
        x.commit();
        x.commit();
        x.checkout(1);
        x.commit();
        x.checkout(0);
        x.commit();
        check.is("base of itself", 2, () -> x.base(2, 2));
        check.is("base of 0", 0, () -> x.base(0, 0));
        check.is("base of one and its parent", 1, () -> x.base(2, 1));
        check.is("base of a parent and its child", 1, () -> x.base(1, 2));
        check.is("base of two lines", 1, () -> x.base(2, 3));
        check.is("base of two lines, turned", 1, () -> x.base(3, 2));
        check.is("base over 0", 0, () -> x.base(3, 4));
        check.fails("base, a is not there", MISSING, () -> x.base(5, 0));
        check.fails("base, b is not there", MISSING, () -> x.base(0, 5));
        for (int far : FAR) {
            check.fails("base, a " + far, MISSING, () -> x.base(far, 0));
            check.fails("base, b " + far, MISSING, () -> x.base(0, far));
        }
    }

    private void baseOfCrossedLines() {
        GroveMerge x = Groves.crossed();
        check.is("the least of two common ones", 1, () -> x.base(3, 4));
        check.is("the least of two common ones, turned", 1, () -> x.base(4, 3));
        check.is("one through the second parent", 2, () -> x.base(3, 2));
        check.is("one through the first parent", 1, () -> x.base(4, 5));
        check.is("not one above another common one", 0, () -> x.base(2, 5));
        x.checkout(4);
        x.merge(5);
        x.commit();
        check.is("more come in", 5, () -> x.base(6, 5));
        check.is("both 1 and 2 are common", 1, () -> x.base(6, 3));
    }

    private void merge() {
        GroveMerge x = Groves.sample();
        x.commit();
        x.delete(3);
        x.relabel(5, 0);
        x.insert(0, 0, 4);
        x.commit();
        x.checkout(1);
        x.move(4, 2, 1);
        x.relabel(0, 3);
        x.insert(6, 0, 1);
        x.commit();
        check.is("merge two lines", 0, () -> x.merge(2));
        treeIs("two lines put together", x, "0:3(7:4 1:1 2:1(5:0 4:3(6:5(8:1))))");
        check.is("which is taken in", 2, () -> x.state(2));
        check.is("the head stays", 3, () -> x.state(1));
        check.is("the rank of a merged node", 5, () -> x.about(4, 3));
        check.fails("no conflict", MISSING, () -> x.conflict(0));
        x.commit();
        x.checkout(2);
        check.is("merge the other way", 0, () -> x.merge(3));
        treeIs("put together the other way", x, "0:3(7:4 1:1 2:1(5:0 4:3(6:5(8:1))))");
        x.checkout(3);
        check.is("merge the head", 0, () -> x.merge(3));
        treeIs("the head's tree as it is", x, "0:3(1:1(3:2) 2:1(5:2 4:3(6:5(8:1))))");
        check.is("the head is taken in", 3, () -> x.state(2));
        x.commit();
        check.is("the head twice, first", 3, () -> x.above(5, 0));
        check.is("the head twice, second", 3, () -> x.above(5, 1));
        check.is("merge one from which the head comes", 0, () -> x.merge(1));
        treeIs("nothing is undone", x, "0:3(1:1(3:2) 2:1(5:2 4:3(6:5(8:1))))");
        x.checkout(0);
        check.is("merge one that comes from the head", 0, () -> x.merge(5));
        treeIs("it is taken over", x, "0:3(1:1(3:2) 2:1(5:2 4:3(6:5(8:1))))");
    }

    private void mergeGuards() {
        GroveMerge x = Groves.sample();
        check.fails("merge, another node", UNREADY, () -> x.merge(0));
        x.commit();
        check.fails("merge, no such commit", MISSING, () -> x.merge(2));
        x.relabel(6, 1);
        check.fails("merge, another label", UNREADY, () -> x.merge(0));
        check.fails("merge, no such commit comes first", MISSING, () -> x.merge(2));
        x.relabel(6, 5);
        check.is("merge, the label is back", 0, () -> x.merge(0));
        check.fails("merge, something is taken in", UNREADY, () -> x.merge(0));
        check.fails("merge, no such commit before taken in", MISSING, () -> x.merge(-1));
        x.checkout(1);
        x.move(3, 1, 1);
        check.fails("merge, another place", UNREADY, () -> x.merge(0));
        x.move(3, 1, 0);
        x.move(6, 1, 2);
        check.fails("merge, another parent in the same order", UNREADY, () -> x.merge(0));
        x.move(6, 4, 0);
        x.delete(5);
        check.fails("merge, a node less", UNREADY, () -> x.merge(0));
        x.insert(2, 0, 2);
        check.fails("merge, another node with the same label", UNREADY, () -> x.merge(0));
        check.is("nothing is taken in by one that throws", GroveMerge.NONE, () -> x.state(2));
        for (int far : FAR) {
            check.fails("merge " + far, MISSING, () -> x.merge(far));
        }
        x.checkout(0);
        x.relabel(0, 1);
        check.fails("merge, another root label", UNREADY, () -> x.merge(0));
    }

    private void mergeRows() {
        GroveMerge x = new GroveMerge();
        for (int i = 0; i < 4; i++) {
            x.insert(0, i, 1);
        }
        x.commit();
        x.insert(0, 0, 5);
        x.insert(0, 1, 5);
        x.insert(0, 4, 5);
        x.insert(0, 5, 5);
        x.insert(0, 8, 5);
        x.delete(3);
        x.commit();
        treeIs("their row", x, "0:0(5:5 6:5 1:1 2:1 7:5 8:5 4:1 9:5)");
        x.checkout(1);
        x.move(2, 0, 3);
        x.insert(0, 0, 0);
        x.insert(0, 5, 0);
        x.commit();
        treeIs("our row", x, "0:0(10:0 1:1 3:1 4:1 2:1 11:0)");
        check.is("merge the rows", 0, () -> x.merge(2));
        treeIs("new ones behind those before them", x, "0:0(5:5 6:5 10:0 1:1 4:1 9:5 2:1 7:5 8:5 11:0)");

        GroveMerge y = new GroveMerge();
        for (int i = 0; i < 4; i++) {
            y.insert(0, i, 1);
        }
        y.commit();
        y.insert(0, 2, 5);
        y.move(1, 4, 0);
        y.commit();
        treeIs("their row, moved away", y, "0:0(2:1 5:5 3:1 4:1(1:1))");
        y.checkout(1);
        y.move(2, 3, 0);
        y.insert(3, 0, 2);
        y.commit();
        check.is("merge with moved ones", 0, () -> y.merge(2));
        treeIs("the first of those that are children now", y, "0:0(5:5 3:1(6:2 2:1) 4:1(1:1))");
    }

    /** Base is commit 1, though commit 2 is common, too: its node 2 is new to both. */
    private void mergeOverAnOlderBase() {
        GroveMerge x = Groves.crossed();
        x.checkout(4);
        treeIs("both nodes are there", x, "0:0(1:1 2:2)");
        x.delete(2);
        x.commit();
        check.is("what the base has not stays", 0, () -> x.merge(3));
        treeIs("it came back", x, "0:0(2:2 1:1)");
    }

    private void conflict() {
        GroveMerge x = Groves.sample();
        x.commit();
        x.delete(1);
        x.relabel(2, 3);
        x.move(5, 0, 0);
        x.relabel(0, 1);
        x.commit();
        x.checkout(1);
        x.relabel(3, 0);
        x.move(6, 2, 0);
        x.relabel(2, 4);
        x.relabel(0, 1);
        x.commit();
        check.is("merge with conflicts", 3, () -> x.merge(2));
        check.is("its conflict 0, two labels", 64 + 2, () -> x.conflict(0));
        check.is("its conflict 1, gone and relabelled", 32 + 3, () -> x.conflict(1));
        check.is("its conflict 2, gone and moved", 32 + 6, () -> x.conflict(2));
        check.fails("it has no conflict 3", MISSING, () -> x.conflict(3));
        check.fails("it has no conflict -1", MISSING, () -> x.conflict(-1));
        for (int far : FAR) {
            check.fails("conflict " + far, MISSING, () -> x.conflict(far));
        }
        treeIs("the working tree stays", x, "0:1(1:1(3:0 4:3) 2:4(6:5 5:2))");
        check.is("nothing is taken in", GroveMerge.NONE, () -> x.state(2));
        x.relabel(3, 1);
        check.fails("a merge that throws", UNREADY, () -> x.merge(2));
        check.is("the latest that did not throw", 32 + 3, () -> x.conflict(1));
        x.checkout(2);
        check.is("a checkout leaves the conflicts", 32 + 6, () -> x.conflict(2));
        check.is("the other way", 3, () -> x.merge(3));
        check.is("the same conflict the other way", 32 + 3, () -> x.conflict(1));
        check.is("merge without conflicts", 0, () -> x.merge(1));
        check.fails("its conflicts are none", MISSING, () -> x.conflict(0));
    }

    private void conflictOfParents() {
        GroveMerge x = Groves.sample();
        x.commit();
        x.move(3, 2, 0);
        x.move(5, 0, 0);
        x.relabel(5, 0);
        x.commit();
        x.checkout(1);
        x.move(3, 4, 0);
        x.move(5, 1, 0);
        x.relabel(5, 1);
        x.commit();
        check.is("two parents", 2, () -> x.merge(2));
        check.is("of kind 3", 96 + 3, () -> x.conflict(0));
        check.is("only the least kind counts", 64 + 5, () -> x.conflict(1));

        GroveMerge gone = Groves.sample();
        gone.commit();
        gone.delete(4);
        gone.commit();
        gone.checkout(1);
        gone.insert(6, 0, 0);
        gone.insert(4, 0, 0);
        gone.insert(7, 0, 0);
        gone.move(2, 4, 0);
        gone.commit();
        check.is("parents do not stay", 3, () -> gone.merge(2));
        check.is("of kind 4, moved", 128 + 2, () -> gone.conflict(0));
        check.is("of kind 4, new", 128 + 7, () -> gone.conflict(1));
        check.is("of kind 4, new and last", 128 + 8, () -> gone.conflict(2));

        GroveMerge ring = Groves.sample();
        ring.insert(0, 2, 0);
        ring.commit();
        ring.move(1, 5, 0);
        ring.commit();
        ring.checkout(1);
        ring.move(2, 3, 0);
        ring.commit();
        check.is("a ring and what hangs on it", 6, () -> ring.merge(2));
        for (int i = 0; i < 6; i++) {
            int k = i;
            check.is("of kind 5, conflict " + i, 160 + 1 + k, () -> ring.conflict(k));
        }
        check.fails("what is not on it is no conflict", MISSING, () -> ring.conflict(6));
        ring.relabel(7, 3);
        ring.move(7, 0, 0);
        ring.commit();
        check.is("the ring again", 6, () -> ring.merge(2));

        GroveMerge both = Groves.sample();
        both.commit();
        both.delete(3);
        both.move(1, 2, 0);
        both.commit();
        both.checkout(1);
        both.insert(3, 0, 0);
        both.move(2, 1, 0);
        both.commit();
        check.is("kind 4 before kind 5", 1, () -> both.merge(2));
        check.is("the one of kind 4", 128 + 7, () -> both.conflict(0));
    }

    /** A node that is in both but not in the base: its labels can't be told apart. */
    private void conflictOverAnOlderBase() {
        GroveMerge x = Groves.crossed();
        x.checkout(4);
        x.relabel(2, 5);
        x.commit();
        check.is("a label against one unchanged", 1, () -> x.merge(3));
        check.is("is kind 2 without the base", 64 + 2, () -> x.conflict(0));
        x.checkout(4);
        x.move(2, 1, 0);
        x.commit();
        check.is("a parent against one unchanged", 1, () -> x.merge(3));
        check.is("is kind 3 without the base", 96 + 2, () -> x.conflict(0));
        x.checkout(3);
        x.relabel(1, 5);
        x.commit();
        x.checkout(4);
        check.is("a label that the base has", 0, () -> x.merge(8));
        check.is("is the changed one", 5, () -> x.about(1, 0));
        x.checkout(8);
        check.is("a label that the base has, turned", 0, () -> x.merge(4));
        check.is("is the changed one, turned", 5, () -> x.about(1, 0));
    }

    private void about() {
        GroveMerge x = Groves.sample();
        int[][] due = {{0, -1, 2, 0}, {1, 0, 2, 1}, {1, 0, 1, 5}, {2, 1, 0, 2}, {3, 1, 1, 3}, {2, 2, 0, 6}, {5, 4, 0, 4}};
        for (int node = 0; node < due.length; node++) {
            for (int part = 0; part < 4; part++) {
                int n = node;
                int p = part;
                check.is("about(" + n + ", " + p + ")", due[n][p], () -> x.about(n, p));
            }
        }
        check.fails("about, not there", MISSING, () -> x.about(7, 0));
        check.fails("about, part 4", OUTSIDE, () -> x.about(0, 4));
        check.fails("about, part -1", OUTSIDE, () -> x.about(0, -1));
        check.fails("about, not there comes first", MISSING, () -> x.about(7, 4));
        for (int far : FAR) {
            check.fails("about node " + far, MISSING, () -> x.about(far, 0));
            check.fails("about part " + far, OUTSIDE, () -> x.about(1, far));
        }
        x.delete(1);
        check.is("the rank after a delete", 1, () -> x.about(2, 3));
        check.fails("about what was deleted", MISSING, () -> x.about(4, 0));
    }

    private void child() {
        GroveMerge x = Groves.sample();
        check.is("child(0, 0)", 1, () -> x.child(0, 0));
        check.is("child(0, 1)", 2, () -> x.child(0, 1));
        check.is("child(1, 1)", 4, () -> x.child(1, 1));
        check.is("child(4, 0)", 6, () -> x.child(4, 0));
        check.fails("child, one too many", OUTSIDE, () -> x.child(0, 2));
        check.fails("child of a leaf", OUTSIDE, () -> x.child(3, 0));
        check.fails("child -1", OUTSIDE, () -> x.child(0, -1));
        check.fails("child, not there", MISSING, () -> x.child(7, 0));
        check.fails("child, not there comes first", MISSING, () -> x.child(7, -1));
        for (int far : FAR) {
            check.fails("child of " + far, MISSING, () -> x.child(far, 0));
            check.fails("child number " + far, OUTSIDE, () -> x.child(0, far));
        }
    }

    private void nodes() {
        GroveMerge x = Groves.sample();
        check.is("nodes(false)", 7, () -> x.nodes(false));
        check.is("nodes(true)", 7, () -> x.nodes(true));
        x.delete(4);
        check.is("nodes(false) after a delete", 5, () -> x.nodes(false));
        check.is("nodes(true) after a delete", 7, () -> x.nodes(true));
        x.checkout(0);
        check.is("nodes(false) after a checkout", 1, () -> x.nodes(false));
        check.is("nodes(true) after a checkout", 7, () -> x.nodes(true));
        x.insert(0, 0, 0);
        check.is("nodes(true) after an insert", 8, () -> x.nodes(true));
    }

    private void count() {
        GroveMerge x = Groves.sample();
        check.is("no steps", 1, () -> x.count(0));
        check.is("no steps, bits above", 1, () -> x.count(-4));
        check.is("children", 2, () -> x.count(Groves.path(Groves.step(1, 6))));
        check.is("children, 7 for any", 2, () -> x.count(Groves.path(Groves.step(1, 7))));
        check.is("children with a label", 2, () -> x.count(Groves.path(Groves.step(1, 1))));
        check.is("children with label 0", 0, () -> x.count(Groves.path(Groves.step(1, 0))));
        check.is("all below", 6, () -> x.count(Groves.path(Groves.step(2, 6))));
        check.is("all below with a label", 2, () -> x.count(Groves.path(Groves.step(2, 2))));
        check.is("the root is not below", 0, () -> x.count(Groves.path(Groves.step(2, 0))));
        check.is("nothing behind the root", 0, () -> x.count(Groves.path(Groves.step(3, 6))));
        check.is("behind in the row", 1, () -> x.count(Groves.path(Groves.step(1, 6), Groves.step(3, 6))));
        check.is("behind with a label", 0, () -> x.count(Groves.path(Groves.step(1, 6), Groves.step(3, 2))));
        check.is("each counted once", 4, () -> x.count(Groves.path(Groves.step(2, 6), Groves.step(2, 6))));
        check.is("steps behind an end do not count", 2, () -> x.count(Groves.path(Groves.step(1, 6), Groves.step(0, 3), Groves.step(1, 6))));
        check.is("bits 30 and 31 do not count", 2, () -> x.count(Groves.path(Groves.step(1, 6)) | 3 << 30));
        check.is("a negative path of children", 2, () -> x.count(Groves.path(Groves.step(1, 6)) | 1 << 31));

        GroveMerge chain = new GroveMerge();
        for (int i = 0; i < 8; i++) {
            chain.insert(i, 0, i % 6);
        }
        int five = Groves.path(25, 25, 25, 25, 25);
        check.is("five steps", 5, () -> chain.find(five, 0));
        check.is("six steps", 6, () -> chain.find(five | 25 << 25, 0));
        check.is("six steps and no seventh", 6, () -> chain.find(five | 25 << 25 | 1 << 30, 0));
        check.is("six steps, the last with a label", 1, () -> chain.count(five | Groves.step(1, 5) << 25));
        check.is("six steps, the last without fit", 0, () -> chain.count(five | Groves.step(1, 4) << 25));
    }

    private void find() {
        GroveMerge x = Groves.sample();
        x.move(2, 0, 0);
        int all = Groves.path(Groves.step(2, 6));
        int[] due = {2, 5, 1, 3, 4, 6};
        for (int i = 0; i < due.length; i++) {
            int k = i;
            check.is("find all below, " + k, due[k], () -> x.find(all, k));
        }
        check.fails("find one too many", MISSING, () -> x.find(all, 6));
        check.fails("find -1", MISSING, () -> x.find(all, -1));
        for (int far : FAR) {
            check.fails("find number " + far, MISSING, () -> x.find(all, far));
            check.fails("find number of the root " + far, MISSING, () -> x.find(0, far));
        }
        check.is("find the root", 0, () -> x.find(0, 0));
        check.fails("find the root twice", MISSING, () -> x.find(0, 1));
        check.is("find by the document order, not the number", 5, () -> x.find(Groves.path(Groves.step(2, 2)), 0));
        check.is("find the next", 3, () -> x.find(Groves.path(Groves.step(2, 2)), 1));
        check.is("find behind", 4, () -> x.find(Groves.path(Groves.step(2, 2), Groves.step(3, 6)), 0));
        check.is("find below behind", 6, () -> x.find(Groves.path(Groves.step(2, 2), Groves.step(3, 3), Groves.step(1, 5)), 0));
        check.fails("find nothing", MISSING, () -> x.find(Groves.path(Groves.step(3, 6)), 0));
        x.insert(1, 0, 0);
        x.insert(1, 3, 0);
        check.is("all behind, not the next alone", 3, () -> x.count(Groves.path(Groves.step(2, 0), Groves.step(3, 7))));
        check.is("behind, the last", 8, () -> x.find(Groves.path(Groves.step(2, 0), Groves.step(3, 7)), 2));
    }

    private void alike() {
        GroveMerge x = new GroveMerge();
        x.insert(0, 0, 1);
        x.insert(0, 1, 1);
        x.insert(1, 0, 2);
        x.insert(1, 1, 3);
        x.insert(2, 0, 2);
        x.insert(2, 1, 3);
        check.is("alike with children", 1, () -> x.alike(2));
        check.is("alike the first itself", 1, () -> x.alike(1));
        check.is("alike leaves", 3, () -> x.alike(5));
        check.is("the root", 0, () -> x.alike(0));
        x.move(5, 2, 1);
        check.is("not in another order", 2, () -> x.alike(2));
        x.move(5, 2, 0);
        x.relabel(6, 4);
        check.is("not with another label below", 2, () -> x.alike(2));
        x.relabel(6, 3);
        x.relabel(2, 0);
        check.is("not with another label", 2, () -> x.alike(2));
        x.relabel(2, 1);
        x.move(6, 5, 0);
        check.is("not with as many nodes in another shape", 2, () -> x.alike(2));
        x.move(2, 0, 0);
        check.is("first by the document order", 6, () -> x.alike(4));
        x.insert(4, 0, 0);
        check.is("not with more children", 4, () -> x.alike(4));
        check.fails("alike, not there", MISSING, () -> x.alike(8));
        for (int far : FAR) {
            check.fails("alike " + far, MISSING, () -> x.alike(far));
        }
        GroveMerge nested = new GroveMerge();
        nested.insert(0, 0, 0);
        nested.insert(1, 0, 0);
        check.is("not one above, with more below", 2, () -> nested.alike(2));
        nested.insert(0, 0, 0);
        check.is("a leaf in front", 3, () -> nested.alike(2));
    }

    private void distance() {
        GroveMerge x = Groves.sample();
        x.commit();
        check.is("of itself", 0, () -> x.distance(1, 1));
        check.is("to the root alone", 6, () -> x.distance(1, 0));
        x.relabel(4, 0);
        x.commit();
        check.is("another label", 1, () -> x.distance(1, 2));
        x.checkout(1);
        x.move(3, 0, 0);
        x.move(4, 0, 1);
        x.delete(1);
        x.commit();
        check.is("one taken out, its children in its place", 1, () -> x.distance(1, 3));
        check.is("one put in as the parent of several", 1, () -> x.distance(3, 1));
        x.checkout(1);
        x.move(1, 0, 1);
        x.commit();
        check.is("two turned", 4, () -> x.distance(1, 4));
        x.checkout(1);
        x.delete(1);
        x.relabel(0, 1);
        x.move(5, 0, 0);
        x.delete(2);
        x.commit();
        check.is("the root may be taken out", 5, () -> x.distance(1, 5));
        check.is("another put in above it", 5, () -> x.distance(5, 1));
        check.fails("distance, a is not there", MISSING, () -> x.distance(6, 0));
        check.fails("distance, b is not there", MISSING, () -> x.distance(0, 6));
        for (int far : FAR) {
            check.fails("distance, a " + far, MISSING, () -> x.distance(far, 0));
            check.fails("distance, b " + far, MISSING, () -> x.distance(0, far));
        }
        GroveMerge chain = new GroveMerge();
        for (int i = 0; i < 23; i++) {
            chain.insert(i, 0, 1);
        }
        chain.commit();
        for (int i = 2; i < 24; i++) {
            chain.move(i, 0, i - 1);
        }
        chain.commit();
        check.is("a chain of 24 and a row of 24", 44, () -> chain.distance(1, 2));
        chain.checkout(0);
        chain.relabel(0, 1);
        chain.commit();
        check.is("a chain and a single node", 23, () -> chain.distance(3, 1));
    }

    private void state() {
        GroveMerge x = Groves.sample();
        x.commit();
        x.commit();
        x.checkout(1);
        check.is("how many commits", 3, () -> x.state(0));
        check.is("the head", 1, () -> x.state(1));
        check.is("nothing taken in", GroveMerge.NONE, () -> x.state(2));
        x.merge(0);
        check.is("0 taken in", 0, () -> x.state(2));
        check.fails("state 3", WRONG, () -> x.state(3));
        check.fails("state -1", WRONG, () -> x.state(-1));
        for (int far : FAR) {
            check.fails("state " + far, WRONG, () -> x.state(far));
        }
    }

    private void above() {
        GroveMerge x = Groves.crossed();
        int[][] due = {{-1, -1}, {0, -1}, {0, -1}, {1, 2}, {2, 1}, {1, -1}};
        for (int commit = 0; commit < due.length; commit++) {
            int c = commit;
            check.is("above(" + c + ", 0)", due[c][0], () -> x.above(c, 0));
            check.is("above(" + c + ", 1)", due[c][1], () -> x.above(c, 1));
        }
        check.fails("above, not there", MISSING, () -> x.above(6, 0));
        check.fails("above, not there comes first", MISSING, () -> x.above(6, 2));
        check.fails("above, parent 2", OUTSIDE, () -> x.above(0, 2));
        check.fails("above, parent -1", OUTSIDE, () -> x.above(3, -1));
        for (int far : FAR) {
            check.fails("above " + far, MISSING, () -> x.above(far, 0));
            check.fails("above number " + far, OUTSIDE, () -> x.above(3, far));
        }
    }

    /** All that reads or builds a tree, on one with all 24 nodes and behind 12 commits. */
    private void fullTree() {
        GroveMerge x = new GroveMerge();
        for (int i = 1; i < 24; i++) {
            x.insert((i - 1) / 2, (i - 1) % 2, i % 2);
        }
        x.commit();
        x.relabel(23, 5);
        x.move(1, 0, 1);
        x.commit();
        x.checkout(1);
        x.move(23, 2, 2);
        for (int i = 3; i < 12; i++) {
            x.commit();
        }
        check.is("all below", 23, () -> x.count(Groves.path(Groves.step(2, 7))));
        check.is("children of all below", 21, () -> x.count(Groves.path(Groves.step(2, 6), Groves.step(1, 6))));
        check.is("behind all below", 12, () -> x.count(Groves.path(Groves.step(2, 6), Groves.step(3, 6))));
        check.is("the last of all", 23, () -> x.find(Groves.path(Groves.step(2, 6)), 22));
        check.is("alike the last", 15, () -> x.alike(23));
        check.is("the last child", 23, () -> x.child(2, 2));
        check.is("distance of a moved leaf", 2, () -> x.distance(1, 11));
        check.is("distance to the root alone", 23, () -> x.distance(11, 0));
        check.is("base of the last", 1, () -> x.base(2, 11));
        check.is("merge full trees", 0, () -> x.merge(2));
        check.is("a label of theirs", 5, () -> x.about(23, 0));
        check.is("a parent of ours", 2, () -> x.about(23, 1));
        check.is("the order of ours", 1, () -> x.child(0, 0));
        check.is("all are there", 24, () -> x.nodes(false));
        check.is("delete below the root", 15, () -> x.delete(1));
        x.checkout(0);
        check.is("merge a full tree into the root", 0, () -> x.merge(11));
        check.is("all came in", 24, () -> x.nodes(false));
        x.checkout(11);
        check.is("merge the root into a full tree", 0, () -> x.merge(0));
        check.is("all stay", 24, () -> x.nodes(false));
    }
}
