import java.util.NoSuchElementException;
import java.util.function.Supplier;

/**
 * For each exception that a promise names: where it is due, where just not, which comes first of several that
 * fit, and that the call which throws changes nothing.
 */
final class RefusedCallTest {
    private static final Class<NoSuchElementException> MISSING = NoSuchElementException.class;
    private static final Class<IndexOutOfBoundsException> OUTSIDE = IndexOutOfBoundsException.class;
    private static final Class<IllegalArgumentException> WRONG = IllegalArgumentException.class;
    private static final Class<UnsupportedOperationException> FULL = UnsupportedOperationException.class;
    private static final Class<IllegalStateException> UNREADY = IllegalStateException.class;

    /** Of grove(): made and deleted, below a deleted one, of another commit alone, not made yet, never made. */
    private static final int[] NOT_IN_IT = {4, 5, 6, 8, 9, 23, 24, 25, 32, 64, -1, -2, Integer.MAX_VALUE, Integer.MIN_VALUE};
    /** Of grove(), which has the commits 0 to 3. */
    private static final int[] NO_COMMIT = {4, 5, 11, 12, 13, 32, -1, -2, Integer.MAX_VALUE, Integer.MIN_VALUE};
    private static final int[] NO_LABEL = {-1, 6, 7, 8, -2, Integer.MAX_VALUE, Integer.MIN_VALUE};
    private static final int[] FAR = {24, 32, -2, Integer.MAX_VALUE, Integer.MIN_VALUE};

    /** Of grove(), one for each exception of each promise that can be thrown there. */
    private static final Groves.Use[] ALL_REFUSED = {
        x -> x.insert(4, 0, 0), x -> x.insert(0, 3, 0), x -> x.insert(0, 0, 6), x -> x.delete(4), x -> x.delete(0),
        x -> x.move(4, 0, 0), x -> x.move(1, 3, 0), x -> x.move(3, 0, 3), x -> x.relabel(4, 0), x -> x.relabel(1, 6),
        x -> x.checkout(4), x -> x.base(4, 0), x -> x.merge(4), x -> x.merge(1), x -> x.conflict(1), x -> x.about(4, 0),
        x -> x.about(0, 4), x -> x.child(4, 0), x -> x.child(0, 2), x -> x.find(0, 1), x -> x.alike(4),
        x -> x.distance(0, 4), x -> x.state(3), x -> x.above(4, 0), x -> x.above(0, 2),
    };

    private final Check check = new Check("RefusedCallTest");

    public static void main(String[] args) {
        RefusedCallTest test = new RefusedCallTest();
        test.insertWithoutParent();
        test.insertAtNoPlace();
        test.insertWithoutLabel();
        test.insertWhenFull();
        test.deleteWhatIsNotThere();
        test.deleteTheRoot();
        test.moveWhatIsNotThere();
        test.moveAgainstTheTree();
        test.moveToNoPlace();
        test.relabelWhatIsNotThere();
        test.relabelWithoutLabel();
        test.commitWhenFull();
        test.checkoutOfNone();
        test.baseOfNone();
        test.mergeOfNone();
        test.mergeWhenUnready();
        test.conflictOfNone();
        test.aboutWhatIsNotThere();
        test.aboutNoPart();
        test.childOfWhatIsNotThere();
        test.childOfNoNumber();
        test.findNone();
        test.alikeWhatIsNotThere();
        test.distanceOfNone();
        test.stateOfNoNumber();
        test.aboveNone();
        test.aboveNoNumber();
        test.severalOfInsert();
        test.severalOfMove();
        test.severalOfMerge();
        test.severalOfTheOthers();
        test.allInARow();
        test.check.end();
    }

    /**
     * 0:0(1:1(3:3(7:2)) 2:1), changed since commit 3, which is the head of 4 commits; the latest merge had one
     * conflict, of kind 2 on node 2. Node 4 was deleted and 5 with it; 6 is of commit 2 alone.
     */
    private static GroveMerge grove() {
        GroveMerge x = new GroveMerge();
        x.insert(0, 0, 1);
        x.insert(0, 1, 2);
        x.insert(1, 0, 3);
        x.insert(1, 1, 4);
        x.insert(4, 0, 5);
        x.commit();
        x.insert(0, 2, 0);
        x.relabel(2, 0);
        x.commit();
        x.checkout(1);
        x.relabel(2, 1);
        x.commit();
        x.merge(2);
        x.delete(4);
        x.insert(3, 0, 2);
        return x;
    }

    /** Commit 1 is taken in over the head 3, and the tree was changed after that. */
    private static GroveMerge takenIn() {
        GroveMerge x = grove();
        x.checkout(3);
        x.merge(1);
        x.relabel(1, 5);
        return x;
    }

    private void refused(String what, Class<? extends RuntimeException> due, Supplier<GroveMerge> setting, Groves.Use call) {
        GroveMerge x = setting.get();
        check.fails(what, due, () -> call.on(x));
        check.same(what + " (what is left)", Groves.wholeState(x), Groves.wholeState(setting.get()));
    }

    private void refused(String what, Class<? extends RuntimeException> due, Groves.Use call) {
        refused(what, due, RefusedCallTest::grove, call);
    }

    private void allowed(String what, Supplier<GroveMerge> setting, Groves.Use call) {
        GroveMerge x = setting.get();
        check.done(what, () -> call.on(x));
    }

    private void allowed(String what, Groves.Use call) {
        allowed(what, RefusedCallTest::grove, call);
    }

    private void insertWithoutParent() {
        check.sentence("NoSuchElementException when the parent is not in it");
        for (int parent : NOT_IN_IT) {
            refused("insert below " + parent, MISSING, x -> x.insert(parent, 0, 0));
        }
        for (int parent : new int[] {0, 1, 2, 3, 7}) {
            allowed("insert below " + parent, x -> x.insert(parent, 0, 0));
        }
        refused("insert below node 1 before it is made", MISSING, GroveMerge::new, x -> x.insert(1, 0, 0));
    }

    private void insertAtNoPlace() {
        check.sentence("IndexOutOfBoundsException when place is not 0 .. the number of its children");
        int[] parents = {0, 1, 2, 3, 7};
        int[] children = {2, 1, 0, 1, 0};
        for (int i = 0; i < parents.length; i++) {
            int parent = parents[i];
            int last = children[i];
            refused("insert at -1 below " + parent, OUTSIDE, x -> x.insert(parent, -1, 0));
            refused("insert one too far below " + parent, OUTSIDE, x -> x.insert(parent, last + 1, 0));
            allowed("insert in front below " + parent, x -> x.insert(parent, 0, 0));
            allowed("insert last below " + parent, x -> x.insert(parent, last, 0));
        }
        for (int place : FAR) {
            refused("insert at " + place, OUTSIDE, x -> x.insert(0, place, 0));
        }
    }

    private void insertWithoutLabel() {
        check.sentence("IllegalArgumentException when label is not 0 .. 5; UnsupportedOperationException");
        for (int label : NO_LABEL) {
            refused("insert label " + label, WRONG, x -> x.insert(0, 0, label));
        }
        allowed("insert label 0", x -> x.insert(0, 0, 0));
        allowed("insert label 5", x -> x.insert(0, 0, 5));
    }

    private static GroveMerge emptied() {
        GroveMerge x = Groves.wide();
        for (int node = 1; node < 24; node++) {
            x.delete(node);
        }
        return x;
    }

    private static GroveMerge oneMissing() {
        GroveMerge x = new GroveMerge();
        for (int i = 0; i < 22; i++) {
            x.insert(0, 0, 0);
        }
        return x;
    }

    private void insertWhenFull() {
        check.sentence("UnsupportedOperationException when 24 nodes were made");
        allowed("insert when 23 were made", RefusedCallTest::oneMissing, x -> x.insert(0, 22, 5));
        refused("insert into a row of 24", FULL, Groves::wide, x -> x.insert(0, 23, 0));
        refused("insert below a chain of 24", FULL, Groves::chain, x -> x.insert(23, 0, 0));
        refused("insert when all are deleted", FULL, RefusedCallTest::emptied, x -> x.insert(0, 0, 0));
    }

    private void deleteWhatIsNotThere() {
        check.sentence("NoSuchElementException when it is not in it; IllegalArgumentException when it is the root");
        for (int node : NOT_IN_IT) {
            refused("delete " + node, MISSING, x -> x.delete(node));
        }
        for (int node : new int[] {1, 2, 3, 7}) {
            allowed("delete " + node, x -> x.delete(node));
        }
    }

    private void deleteTheRoot() {
        check.sentence("IllegalArgumentException when it is the root");
        refused("delete the root with children", WRONG, x -> x.delete(0));
        refused("delete the root alone", WRONG, GroveMerge::new, x -> x.delete(0));
        refused("delete the root of a full tree", WRONG, Groves::chain, x -> x.delete(0));
    }

    private void moveWhatIsNotThere() {
        check.sentence("NoSuchElementException when one is not in it");
        for (int gone : NOT_IN_IT) {
            refused("move " + gone, MISSING, x -> x.move(gone, 0, 0));
            refused("move below " + gone, MISSING, x -> x.move(1, gone, 0));
            refused("move both, " + gone, MISSING, x -> x.move(gone, gone, 0));
        }
        allowed("move where both are in it", x -> x.move(7, 2, 0));
    }

    private void moveAgainstTheTree() {
        check.sentence("IllegalArgumentException when the node is the root, or the parent is it or below it");
        for (int parent : new int[] {0, 1, 2, 3, 7}) {
            refused("move the root below " + parent, WRONG, x -> x.move(0, parent, 0));
        }
        refused("move a node below itself", WRONG, x -> x.move(3, 3, 0));
        refused("move a leaf below itself", WRONG, x -> x.move(2, 2, 0));
        refused("move a node below its child", WRONG, x -> x.move(1, 3, 0));
        refused("move a node below its child's child", WRONG, x -> x.move(1, 7, 0));
        refused("move the first of a full chain below the last", WRONG, Groves::chain, x -> x.move(1, 23, 0));
        allowed("move below the one above", x -> x.move(7, 1, 0));
        allowed("move below the one beside", x -> x.move(1, 2, 0));
        allowed("move below the one before", x -> x.move(2, 7, 0));
        allowed("move below its own parent", x -> x.move(7, 3, 0));
    }

    private void moveToNoPlace() {
        check.sentence("IndexOutOfBoundsException when place is not 0 .. the number of the parent's other children");
        int[][] moves = {{1, 0, 1}, {2, 0, 1}, {3, 0, 2}, {7, 0, 2}, {3, 1, 0}, {7, 3, 0}, {2, 1, 1}, {1, 2, 0}};
        for (int[] move : moves) {
            int node = move[0];
            int parent = move[1];
            int last = move[2];
            String what = "move " + node + " below " + parent + " to ";
            refused(what + -1, OUTSIDE, x -> x.move(node, parent, -1));
            refused(what + (last + 1), OUTSIDE, x -> x.move(node, parent, last + 1));
            allowed(what + 0, x -> x.move(node, parent, 0));
            allowed(what + last, x -> x.move(node, parent, last));
        }
        for (int place : FAR) {
            refused("move to " + place, OUTSIDE, x -> x.move(3, 0, place));
        }
        refused("move in a row of 23 to 23", OUTSIDE, Groves::wide, x -> x.move(1, 0, 23));
        allowed("move in a row of 23 to 22", Groves::wide, x -> x.move(1, 0, 22));
    }

    private void relabelWhatIsNotThere() {
        check.sentence("NoSuchElementException when it is not in it; IllegalArgumentException when label is not 0 .. 5");
        for (int node : NOT_IN_IT) {
            refused("relabel " + node, MISSING, x -> x.relabel(node, 0));
        }
        for (int node : new int[] {0, 1, 2, 3, 7}) {
            allowed("relabel " + node, x -> x.relabel(node, 4));
        }
    }

    private void relabelWithoutLabel() {
        check.sentence("IllegalArgumentException when label is not 0 .. 5");
        for (int label : NO_LABEL) {
            refused("relabel to " + label, WRONG, x -> x.relabel(1, label));
            refused("relabel the root to " + label, WRONG, x -> x.relabel(0, label));
        }
        allowed("relabel to 0", x -> x.relabel(1, 0));
        allowed("relabel to 5", x -> x.relabel(1, 5));
    }

    private static GroveMerge twelveAndTakenIn() {
        GroveMerge x = Groves.twelve();
        x.checkout(3);
        x.merge(5);
        x.relabel(1, 0);
        return x;
    }

    private void commitWhenFull() {
        check.sentence("UnsupportedOperationException when there are 12");
        refused("commit a thirteenth", FULL, Groves::twelve, x -> x.commit());
        refused("commit a thirteenth of a merge", FULL, RefusedCallTest::twelveAndTakenIn, x -> x.commit());
        GroveMerge x = new GroveMerge();
        for (int i = 1; i < 11; i++) {
            x.commit();
        }
        check.is("commit a twelfth", 11, x::commit);
    }

    private void checkoutOfNone() {
        check.sentence("which becomes the head; nothing is taken in. NoSuchElementException when there is no such commit");
        for (int commit : NO_COMMIT) {
            refused("checkout " + commit, MISSING, x -> x.checkout(commit));
            refused("checkout when one is taken in, " + commit, MISSING, RefusedCallTest::takenIn, x -> x.checkout(commit));
        }
        allowed("checkout the first", x -> x.checkout(0));
        allowed("checkout the last", x -> x.checkout(3));
        refused("checkout 1 when there is but 0", MISSING, GroveMerge::new, x -> x.checkout(1));
        refused("checkout 12 of 12", MISSING, Groves::twelve, x -> x.checkout(12));
        allowed("checkout 11 of 12", Groves::twelve, x -> x.checkout(11));
    }

    private void baseOfNone() {
        check.sentence("The BASE of two commits. NoSuchElementException when there is no such commit");
        for (int commit : NO_COMMIT) {
            refused("base, a is " + commit, MISSING, x -> x.base(commit, 0));
            refused("base, b is " + commit, MISSING, x -> x.base(0, commit));
            refused("base, both are " + commit, MISSING, x -> x.base(commit, commit));
        }
        allowed("base of the first and the last", x -> x.base(0, 3));
        allowed("base of the last and the first", x -> x.base(3, 0));
        refused("base 12 of 12", MISSING, Groves::twelve, x -> x.base(12, 11));
        allowed("base 11 of 12", Groves::twelve, x -> x.base(11, 11));
    }

    private static GroveMerge clean() {
        GroveMerge x = grove();
        x.checkout(3);
        return x;
    }

    private void mergeOfNone() {
        check.sentence("NoSuchElementException when there is no such commit; IllegalStateException when");
        for (int commit : NO_COMMIT) {
            refused("merge " + commit, MISSING, RefusedCallTest::clean, x -> x.merge(commit));
        }
        allowed("merge the first", RefusedCallTest::clean, x -> x.merge(0));
        allowed("merge the last", RefusedCallTest::clean, x -> x.merge(3));
        refused("merge 1 when there is but 0", MISSING, GroveMerge::new, x -> x.merge(1));
        refused("merge 12 of 12", MISSING, Groves::twelve, x -> x.merge(12));
        allowed("merge 11 of 12", Groves::twelve, x -> x.merge(11));
    }

    /** A clean grove after something was done with it: merging it is refused. */
    private void unready(String what, Groves.Use before) {
        refused("merge after " + what, UNREADY, () -> {
            GroveMerge x = clean();
            before.on(x);
            return x;
        }, x -> x.merge(1));
    }

    private void mergeWhenUnready() {
        check.sentence("IllegalStateException when the working tree is not the head's (another label, parent, place or node), "
                + "or something is taken in");
        unready("another label", x -> x.relabel(5, 0));
        unready("another label of the root", x -> x.relabel(0, 1));
        unready("another parent", x -> x.move(5, 3, 0));
        unready("another parent, the order being as before", x -> x.move(5, 1, 2));
        unready("another place", x -> x.move(3, 1, 1));
        unready("another place of one with others below", x -> x.move(1, 0, 1));
        unready("a node more", x -> x.insert(5, 0, 0));
        unready("a node less", x -> x.delete(5));
        unready("another node, looking as the one before", x -> {
            x.delete(5);
            x.insert(4, 0, 5);
        });
        unready("taking in one that changed nothing", x -> x.merge(0));
        unready("taking in the head", x -> x.merge(3));
        unready("taking in and changing", x -> {
            x.merge(1);
            x.relabel(1, 0);
        });
        allowed("merge when all was changed back", RefusedCallTest::clean, x -> {
            x.relabel(5, 0);
            x.move(5, 3, 0);
            x.move(5, 4, 0);
            x.relabel(5, 5);
            x.merge(1);
        });
    }

    private void conflictOfNone() {
        check.sentence("the node, and 32 times its kind. NoSuchElementException when there is none");
        allowed("conflict 0 of one", x -> x.conflict(0));
        refused("conflict 1 of one", MISSING, x -> x.conflict(1));
        refused("conflict -1 of one", MISSING, x -> x.conflict(-1));
        for (int k : FAR) {
            refused("conflict " + k, MISSING, x -> x.conflict(k));
        }
        refused("conflict 0 when nothing was merged", MISSING, GroveMerge::new, x -> x.conflict(0));
        refused("conflict 0 when there were none", MISSING, RefusedCallTest::takenIn, x -> x.conflict(0));
    }

    private void aboutWhatIsNotThere() {
        check.sentence("NoSuchElementException when it is not in it; IndexOutOfBoundsException when there is no such part");
        for (int node : NOT_IN_IT) {
            for (int part = 0; part < 4; part++) {
                int p = part;
                refused("about " + node + ", part " + p, MISSING, x -> x.about(node, p));
            }
        }
        allowed("about the root", x -> x.about(0, 0));
    }

    private void aboutNoPart() {
        check.sentence("IndexOutOfBoundsException when there is no such part");
        for (int part : new int[] {4, 5, -1, -2, 32, Integer.MAX_VALUE, Integer.MIN_VALUE}) {
            refused("about part " + part, OUTSIDE, x -> x.about(1, part));
            refused("about the root, part " + part, OUTSIDE, x -> x.about(0, part));
        }
        allowed("about part 0", x -> x.about(1, 0));
        allowed("about part 3", x -> x.about(1, 3));
    }

    private void childOfWhatIsNotThere() {
        check.sentence("NoSuchElementException when it is not in it; IndexOutOfBoundsException when there is no such child");
        for (int node : NOT_IN_IT) {
            refused("child of " + node, MISSING, x -> x.child(node, 0));
        }
        allowed("child of the root", x -> x.child(0, 0));
    }

    private void childOfNoNumber() {
        check.sentence("IndexOutOfBoundsException when there is no such child");
        refused("child -1", OUTSIDE, x -> x.child(0, -1));
        refused("child 2 of two", OUTSIDE, x -> x.child(0, 2));
        allowed("child 1 of two", x -> x.child(0, 1));
        refused("child 0 of a leaf", OUTSIDE, x -> x.child(7, 0));
        refused("child 0 of the root alone", OUTSIDE, GroveMerge::new, x -> x.child(0, 0));
        refused("child 23 of 23", OUTSIDE, Groves::wide, x -> x.child(0, 23));
        allowed("child 22 of 23", Groves::wide, x -> x.child(0, 22));
        for (int i : FAR) {
            refused("child " + i, OUTSIDE, x -> x.child(0, i));
        }
    }

    private void findNone() {
        check.sentence("in the document order. NoSuchElementException when there is none");
        int all = Groves.path(Groves.step(2, 6));
        allowed("find the last of four", x -> x.find(all, 3));
        refused("find one behind the last", MISSING, x -> x.find(all, 4));
        refused("find one before the first", MISSING, x -> x.find(all, -1));
        refused("find one behind the root", MISSING, x -> x.find(0, 1));
        refused("find one before the root", MISSING, x -> x.find(0, -1));
        refused("find the first of none", MISSING, x -> x.find(Groves.path(Groves.step(3, 6)), 0));
        refused("find the first below the root alone", MISSING, GroveMerge::new, x -> x.find(all, 0));
        refused("find 23 of 23", MISSING, Groves::wide, x -> x.find(all, 23));
        allowed("find 22 of 23", Groves::wide, x -> x.find(all, 22));
        for (int k : FAR) {
            refused("find " + k, MISSING, x -> x.find(all, k));
        }
    }

    private void alikeWhatIsNotThere() {
        check.sentence("NoSuchElementException when that is not in it");
        for (int node : NOT_IN_IT) {
            refused("alike " + node, MISSING, x -> x.alike(node));
        }
        for (int node : new int[] {0, 1, 2, 3, 7}) {
            allowed("alike " + node, x -> x.alike(node));
        }
    }

    private void distanceOfNone() {
        check.sentence("The DISTANCE of the trees of two commits. NoSuchElementException when there is no such commit");
        for (int commit : NO_COMMIT) {
            refused("distance, a is " + commit, MISSING, x -> x.distance(commit, 0));
            refused("distance, b is " + commit, MISSING, x -> x.distance(0, commit));
            refused("distance, both are " + commit, MISSING, x -> x.distance(commit, commit));
        }
        allowed("distance of the first and the last", x -> x.distance(0, 3));
        allowed("distance of the last and the first", x -> x.distance(3, 0));
        refused("distance 12 of 12", MISSING, Groves::twelve, x -> x.distance(12, 11));
        allowed("distance 11 of 12", Groves::twelve, x -> x.distance(11, 11));
    }

    private void stateOfNoNumber() {
        check.sentence("by what 0, 1, 2. IllegalArgumentException when it is another number");
        for (int what : new int[] {3, 4, -1, -2, 32, Integer.MAX_VALUE, Integer.MIN_VALUE}) {
            refused("state " + what, WRONG, x -> x.state(what));
        }
        allowed("state 0", x -> x.state(0));
        allowed("state 2", x -> x.state(2));
    }

    private void aboveNone() {
        check.sentence("NONE when it has not so many. NoSuchElementException when there is no such commit");
        for (int commit : NO_COMMIT) {
            refused("above " + commit + ", parent 0", MISSING, x -> x.above(commit, 0));
            refused("above " + commit + ", parent 1", MISSING, x -> x.above(commit, 1));
        }
        allowed("above the first", x -> x.above(0, 0));
        allowed("above the last", x -> x.above(3, 1));
        refused("above 12 of 12", MISSING, Groves::twelve, x -> x.above(12, 0));
        allowed("above 11 of 12", Groves::twelve, x -> x.above(11, 0));
    }

    private void aboveNoNumber() {
        check.sentence("IndexOutOfBoundsException when i is not 0 or 1");
        for (int i : new int[] {2, 3, -1, -2, 32, Integer.MAX_VALUE, Integer.MIN_VALUE}) {
            refused("above of the first, parent " + i, OUTSIDE, x -> x.above(0, i));
            refused("above of the last, parent " + i, OUTSIDE, x -> x.above(3, i));
        }
        allowed("above, parent 0", x -> x.above(3, 0));
        allowed("above, parent 1", x -> x.above(3, 1));
    }

    private void severalOfInsert() {
        check.sentence("where several exceptions that a call names fit, it is the one that it names first");
        refused("insert: parent, place", MISSING, x -> x.insert(4, -1, 0));
        refused("insert: parent, label", MISSING, x -> x.insert(4, 0, 6));
        refused("insert: parent, place, label", MISSING, x -> x.insert(-1, -1, -1));
        refused("insert: place, label", OUTSIDE, x -> x.insert(0, 3, 6));
        refused("insert: parent, 24", MISSING, RefusedCallTest::emptied, x -> x.insert(1, 0, 0));
        refused("insert: parent, place, 24", MISSING, RefusedCallTest::emptied, x -> x.insert(1, 1, 0));
        refused("insert: parent, label, 24", MISSING, RefusedCallTest::emptied, x -> x.insert(24, 0, 6));
        refused("insert: all four", MISSING, Groves::wide, x -> x.insert(24, 24, 24));
        refused("insert: place, 24", OUTSIDE, Groves::wide, x -> x.insert(0, 24, 0));
        refused("insert: place, label, 24", OUTSIDE, Groves::wide, x -> x.insert(23, 1, 6));
        refused("insert: label, 24", WRONG, Groves::wide, x -> x.insert(23, 0, -1));
    }

    private void severalOfMove() {
        check.sentence("where several exceptions that a call names fit, it is the one that it names first");
        refused("move: node, place", MISSING, x -> x.move(4, 0, 9));
        refused("move: parent, place", MISSING, x -> x.move(1, 4, 9));
        refused("move: node, parent, place", MISSING, x -> x.move(4, 4, -1));
        refused("move: parent, the root", MISSING, x -> x.move(0, 4, 0));
        refused("move: parent, the root, place", MISSING, x -> x.move(0, -1, -1));
        refused("move: the root, place", WRONG, x -> x.move(0, 2, 9));
        refused("move: the root to itself, place", WRONG, x -> x.move(0, 0, -1));
        refused("move: to itself, place", WRONG, x -> x.move(3, 3, 2));
        refused("move: below itself, place", WRONG, x -> x.move(1, 7, -1));
    }

    private void severalOfMerge() {
        check.sentence("where several exceptions that a call names fit, it is the one that it names first");
        refused("merge: no commit, changed", MISSING, x -> x.merge(4));
        refused("merge: no commit, taken in, changed", MISSING, RefusedCallTest::takenIn, x -> x.merge(-1));
        refused("merge: no commit, taken in", MISSING, () -> {
            GroveMerge x = clean();
            x.merge(3);
            return x;
        }, x -> x.merge(4));
        refused("merge: taken in, changed", UNREADY, RefusedCallTest::takenIn, x -> x.merge(1));
    }

    private void severalOfTheOthers() {
        check.sentence("where several exceptions that a call names fit, it is the one that it names first");
        refused("relabel: node, label", MISSING, x -> x.relabel(4, 6));
        refused("relabel: node, label, both below 0", MISSING, x -> x.relabel(-1, -1));
        refused("about: node, part", MISSING, x -> x.about(4, 4));
        refused("about: node, part, both below 0", MISSING, x -> x.about(-1, -1));
        refused("child: node, number", MISSING, x -> x.child(4, 1));
        refused("child: node, number, both below 0", MISSING, x -> x.child(-1, -1));
        refused("above: commit, number", MISSING, x -> x.above(4, 2));
        refused("above: commit, number, both below 0", MISSING, x -> x.above(-1, -1));
    }

    private void allInARow() {
        check.sentence("A call that throws changes nothing");
        GroveMerge x = grove();
        for (int i = 0; i < ALL_REFUSED.length; i++) {
            int number = i;
            String answer = Check.outcome(() -> ALL_REFUSED[number].on(x));
            check.same("call " + i + " is refused", answer.startsWith("throws."), true);
        }
        check.same("what is left after all", Groves.wholeState(x), Groves.wholeState(grove()));
        GroveMerge full = Groves.twelve();
        for (int i = 0; i < 20; i++) {
            check.fails("commit a thirteenth", FULL, full::commit);
        }
        check.same("what is left of twelve", Groves.wholeState(full), Groves.wholeState(Groves.twelve()));
    }
}
