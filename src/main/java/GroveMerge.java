import java.util.Arrays;
import java.util.NoSuchElementException;

/**
 * A tree of labelled nodes with its commits: changed, taken up again, searched, compared and merged.
 */
public final class GroveMerge {
    public static final int NONE = -1;

    private static final int MAX_NODES = 24;
    private static final int MAX_COMMITS = 12;
    private static final int LABELS = 6;
    private static final int ROOT = 0;

    private final Tree working = new Tree();
    private final History history = new History();
    private final Paths paths = new Paths();
    private final Distances distances = new Distances();
    private final Merging merging = new Merging();
    private int made = 1;
    private int head = 0;
    private int takenIn = NONE;

    public GroveMerge() {
    }

    public int insert(int parent, int place, int label)
            throws NoSuchElementException, IndexOutOfBoundsException, IllegalArgumentException,
            UnsupportedOperationException {
        requireNode(parent);
        requirePlace(place, working.childCount(parent));
        requireLabel(label);
        if (made >= MAX_NODES) {
            throw new UnsupportedOperationException("24 nodes were made");
        }
        int node = made;
        made++;
        working.label[node] = label;
        working.held[0] = node;
        working.putBack(node, parent, place, 1);
        return node;
    }

    public int delete(int node) throws NoSuchElementException, IllegalArgumentException {
        requireNode(node);
        if (node == ROOT) {
            throw new IllegalArgumentException("the root stays");
        }
        return working.cut(node);
    }

    public void move(int node, int parent, int place)
            throws NoSuchElementException, IllegalArgumentException, IndexOutOfBoundsException {
        requireNode(node);
        requireNode(parent);
        if (node == ROOT || working.isAtOrBelow(parent, node)) {
            throw new IllegalArgumentException("a node can't stand below itself");
        }
        int others = working.childCount(parent);
        if (working.parent[node] == parent) {
            others--;
        }
        requirePlace(place, others);
        int length = working.cut(node);
        working.putBack(node, parent, place, length);
    }

    public void relabel(int node, int label) throws NoSuchElementException, IllegalArgumentException {
        requireNode(node);
        requireLabel(label);
        working.label[node] = label;
    }

    public int commit() throws UnsupportedOperationException {
        if (history.size >= MAX_COMMITS) {
            throw new UnsupportedOperationException("there are 12 commits");
        }
        head = history.append(working, head, takenIn);
        takenIn = NONE;
        return head;
    }

    public void checkout(int commit) throws NoSuchElementException {
        requireCommit(commit);
        working.become(history.tree[commit]);
        head = commit;
        takenIn = NONE;
    }

    public int base(int a, int b) throws NoSuchElementException {
        requireCommit(a);
        requireCommit(b);
        return history.baseOf(a, b);
    }

    public int merge(int commit) throws NoSuchElementException, IllegalStateException {
        requireCommit(commit);
        Tree ours = history.tree[head];
        if (takenIn != NONE || !working.sameAs(ours)) {
            throw new IllegalStateException("the working tree is not the head's");
        }
        Tree origin = history.tree[history.baseOf(head, commit)];
        int conflicts = merging.judgeAll(ours, history.tree[commit], origin);
        if (conflicts == 0) {
            merging.buildInto(working, ours, history.tree[commit]);
            takenIn = commit;
        }
        return conflicts;
    }

    public int conflict(int k) throws NoSuchElementException {
        if (k < 0 || k >= merging.conflicts) {
            throw new NoSuchElementException("no such conflict");
        }
        return merging.conflictCode[k];
    }

    public int about(int node, int part) throws NoSuchElementException, IndexOutOfBoundsException {
        requireNode(node);
        switch (part) {
            case 0:
                return working.label[node];
            case 1:
                return working.parent[node];
            case 2:
                return working.childCount(node);
            case 3:
                return working.rank[node];
            default:
                throw new IndexOutOfBoundsException("no such part");
        }
    }

    public int child(int node, int i) throws NoSuchElementException, IndexOutOfBoundsException {
        requireNode(node);
        requirePlace(i, working.childCount(node) - 1);
        return working.order[working.rankOfChild(node, i)];
    }

    public int nodes(boolean made) {
        return made ? this.made : working.size;
    }

    public int count(int path) {
        return Integer.bitCount(paths.follow(working, path));
    }

    public int find(int path, int k) throws NoSuchElementException {
        int found = paths.follow(working, path);
        int seen = 0;
        for (int i = 0; i < working.size; i++) {
            int node = working.order[i];
            if (isIn(found, node)) {
                if (seen == k) {
                    return node;
                }
                seen++;
            }
        }
        throw new NoSuchElementException("the path does not find so many");
    }

    public int alike(int node) throws NoSuchElementException {
        requireNode(node);
        int rank = working.rank[node];
        for (int i = 0; i < rank; i++) {
            if (working.sameBelow(i, rank)) {
                return working.order[i];
            }
        }
        return node;
    }

    public int distance(int a, int b) throws NoSuchElementException {
        requireCommit(a);
        requireCommit(b);
        return distances.between(history.tree[a], history.tree[b]);
    }

    public int state(int what) throws IllegalArgumentException {
        switch (what) {
            case 0:
                return history.size;
            case 1:
                return head;
            case 2:
                return takenIn;
            default:
                throw new IllegalArgumentException("no such state");
        }
    }

    public int above(int commit, int i) throws NoSuchElementException, IndexOutOfBoundsException {
        requireCommit(commit);
        if (i < 0 || i > 1) {
            throw new IndexOutOfBoundsException("a commit has parents 0 and 1");
        }
        return i == 0 ? history.first[commit] : history.second[commit];
    }

    private void requireNode(int node) {
        if (!working.has(node)) {
            throw new NoSuchElementException("the node is not in the working tree");
        }
    }

    private void requireCommit(int commit) {
        if (commit < 0 || commit >= history.size) {
            throw new NoSuchElementException("no such commit");
        }
    }

    private static void requireLabel(int label) {
        if (label < 0 || label >= LABELS) {
            throw new IllegalArgumentException("a label is 0 .. 5");
        }
    }

    private static void requirePlace(int place, int last) {
        if (place < 0 || place > last) {
            throw new IndexOutOfBoundsException("no such place");
        }
    }

    private static boolean isIn(int set, int member) {
        return (set >> member & 1) != 0;
    }

    /**
     * A tree held as its document order: what is below a node stands right behind it, in one piece,
     * so the order and the parents together say the order of the children, too.
     */
    private static final class Tree {
        int size = 1;
        /** The node at each number of the document order. */
        final int[] order = new int[MAX_NODES];
        /** The number of each node in the document order, NONE when it is not in the tree. */
        final int[] rank = new int[MAX_NODES];
        final int[] parent = new int[MAX_NODES];
        final int[] label = new int[MAX_NODES];
        /** A piece of the order that was cut, or is to be put in. */
        final int[] held = new int[MAX_NODES];

        Tree() {
            becomeRootAlone();
            parent[ROOT] = NONE;
        }

        boolean has(int node) {
            return node >= 0 && node < MAX_NODES && rank[node] != NONE;
        }

        void become(Tree other) {
            size = other.size;
            System.arraycopy(other.order, 0, order, 0, MAX_NODES);
            System.arraycopy(other.rank, 0, rank, 0, MAX_NODES);
            System.arraycopy(other.parent, 0, parent, 0, MAX_NODES);
            System.arraycopy(other.label, 0, label, 0, MAX_NODES);
        }

        void becomeRootAlone() {
            size = 1;
            Arrays.fill(rank, NONE);
            rank[ROOT] = 0;
        }

        boolean sameAs(Tree other) {
            if (size != other.size) {
                return false;
            }
            for (int i = 0; i < size; i++) {
                int node = order[i];
                if (other.order[i] != node || other.parent[node] != parent[node]
                        || other.label[node] != label[node]) {
                    return false;
                }
            }
            return true;
        }

        /** The rank of the parent of the node at a rank above 0. */
        int parentRank(int at) {
            return rank[parent[order[at]]];
        }

        /** The rank behind the last node at or below the one at a rank. */
        int endOf(int at) {
            int end = at + 1;
            while (end < size && parentRank(end) >= at) {
                end++;
            }
            return end;
        }

        boolean isAtOrBelow(int node, int top) {
            return rank[node] >= rank[top] && rank[node] < endOf(rank[top]);
        }

        int childCount(int node) {
            int children = 0;
            for (int i = 1; i < size; i++) {
                if (parent[order[i]] == node) {
                    children++;
                }
            }
            return children;
        }

        /** Where child number i of a node stands, or would stand as the new last one. */
        int rankOfChild(int node, int i) {
            int end = endOf(rank[node]);
            int seen = 0;
            for (int at = rank[node] + 1; at < end; at++) {
                if (parent[order[at]] == node) {
                    if (seen == i) {
                        return at;
                    }
                    seen++;
                }
            }
            return end;
        }

        /** Are the nodes at two ranks alike? */
        boolean sameBelow(int one, int two) {
            int length = endOf(one) - one;
            if (endOf(two) - two != length || label[order[one]] != label[order[two]]) {
                return false;
            }
            for (int i = 1; i < length; i++) {
                if (label[order[one + i]] != label[order[two + i]]
                        || parentRank(one + i) - one != parentRank(two + i) - two) {
                    return false;
                }
            }
            return true;
        }

        /** Takes a node with all below it out of the order and holds it: how many. */
        int cut(int node) {
            int from = rank[node];
            int end = endOf(from);
            int length = end - from;
            for (int i = 0; i < length; i++) {
                held[i] = order[from + i];
                rank[held[i]] = NONE;
            }
            System.arraycopy(order, end, order, from, size - end);
            size -= length;
            renumberFrom(from);
            return length;
        }

        /** Puts a held node with the others held behind it in as child number place of a parent. */
        void putBack(int node, int newParent, int place, int length) {
            parent[node] = newParent;
            putHeld(rankOfChild(newParent, place), length);
        }

        /** Puts what is held into the order, so that it begins at a rank. */
        void putHeld(int at, int length) {
            System.arraycopy(order, at, order, at + length, size - at);
            System.arraycopy(held, 0, order, at, length);
            size += length;
            renumberFrom(at);
        }

        private void renumberFrom(int from) {
            for (int i = from; i < size; i++) {
                rank[order[i]] = i;
            }
        }
    }

    /** The commits: their trees and how they stand over one another; commit 0 is there at first. */
    private static final class History {
        int size = 1;
        final Tree[] tree = new Tree[MAX_COMMITS];
        final int[] first = new int[MAX_COMMITS];
        final int[] second = new int[MAX_COMMITS];
        /** For each commit the set of those above it, as bits. */
        final int[] ancestors = new int[MAX_COMMITS];

        History() {
            for (int i = 0; i < MAX_COMMITS; i++) {
                tree[i] = new Tree();
            }
            first[0] = NONE;
            second[0] = NONE;
        }

        /** A new commit, of which the caller knows that there is room for it: its number. */
        int append(Tree content, int firstParent, int secondParent) {
            int commit = size;
            size++;
            tree[commit].become(content);
            first[commit] = firstParent;
            second[commit] = secondParent;
            ancestors[commit] = withAncestors(firstParent) | withAncestors(secondParent);
            return commit;
        }

        private int withAncestors(int commit) {
            return commit == NONE ? 0 : ancestors[commit] | 1 << commit;
        }

        int baseOf(int a, int b) {
            int common = withAncestors(a) & withAncestors(b);
            int covered = 0;
            for (int i = 0; i < size; i++) {
                if (isIn(common, i)) {
                    covered |= ancestors[i];
                }
            }
            for (int i = 0; i < size; i++) {
                if (isIn(common & ~covered, i)) {
                    return i;
                }
            }
            return 0;
        }
    }

    /** Finds the nodes of a path; sets of nodes are ints with a bit for each node. */
    private static final class Paths {
        private static final int STEPS = 6;
        private static final int STEP_BITS = 5;
        private static final int CHILD = 1;
        private static final int BELOW = 2;

        int follow(Tree tree, int path) {
            int found = 1 << ROOT;
            for (int i = 0; i < STEPS; i++) {
                int step = path >> i * STEP_BITS;
                int axis = step & 3;
                if (axis == 0) {
                    return found;
                }
                found = along(tree, found, axis) & labelled(tree, step >> 2 & 7);
            }
            return found;
        }

        private int along(Tree tree, int from, int axis) {
            if (axis == CHILD) {
                return childrenOf(tree, from);
            }
            return axis == BELOW ? below(tree, from) : behind(tree, from);
        }

        private int labelled(Tree tree, int label) {
            int set = 0;
            for (int i = 0; i < tree.size; i++) {
                int node = tree.order[i];
                if (label >= LABELS || tree.label[node] == label) {
                    set |= 1 << node;
                }
            }
            return set;
        }

        private int childrenOf(Tree tree, int from) {
            int set = 0;
            for (int i = 1; i < tree.size; i++) {
                int node = tree.order[i];
                if (isIn(from, tree.parent[node])) {
                    set |= 1 << node;
                }
            }
            return set;
        }

        private int below(Tree tree, int from) {
            int set = 0;
            for (int i = 1; i < tree.size; i++) {
                int node = tree.order[i];
                if (isIn(from | set, tree.parent[node])) {
                    set |= 1 << node;
                }
            }
            return set;
        }

        private int behind(Tree tree, int from) {
            int set = 0;
            int parentsPassed = 0;
            for (int i = 1; i < tree.size; i++) {
                int node = tree.order[i];
                if (isIn(parentsPassed, tree.parent[node])) {
                    set |= 1 << node;
                }
                if (isIn(from, node)) {
                    parentsPassed |= 1 << tree.parent[node];
                }
            }
            return set;
        }
    }

    /**
     * Tells the distance of two trees by the way of Zhang and Shasha, from the end of the document
     * order to its front: a forest is what stands from a rank on, and loses its first node.
     */
    private static final class Distances {
        /** The distance of what is at or below two ranks. */
        private final int[][] ofTrees = new int[MAX_NODES][MAX_NODES];
        /** The distance of what stands from two ranks on, up to the end of the two trees at hand. */
        private final int[][] ofForests = new int[MAX_NODES + 1][MAX_NODES + 1];
        private final int[] endOne = new int[MAX_NODES];
        private final int[] endTwo = new int[MAX_NODES];

        int between(Tree one, Tree two) {
            noteEnds(one, endOne);
            noteEnds(two, endTwo);
            for (int a = one.size - 1; a >= 0; a--) {
                for (int b = two.size - 1; b >= 0; b--) {
                    if (isFirstToEnd(one, endOne, a) && isFirstToEnd(two, endTwo, b)) {
                        compare(one, a, two, b);
                    }
                }
            }
            return ofTrees[0][0];
        }

        private void noteEnds(Tree tree, int[] end) {
            for (int i = 0; i < tree.size; i++) {
                end[i] = tree.endOf(i);
            }
        }

        /** The last child is compared along with its parent, as both end at one place. */
        private boolean isFirstToEnd(Tree tree, int[] end, int at) {
            return at == 0 || end[tree.parentRank(at)] != end[at];
        }

        private void compare(Tree one, int a, Tree two, int b) {
            int endA = endOne[a];
            int endB = endTwo[b];
            ofForests[endA][endB] = 0;
            for (int i = endA - 1; i >= a; i--) {
                ofForests[i][endB] = endA - i;
            }
            for (int j = endB - 1; j >= b; j--) {
                ofForests[endA][j] = endB - j;
            }
            for (int i = endA - 1; i >= a; i--) {
                for (int j = endB - 1; j >= b; j--) {
                    int oneOut = Math.min(ofForests[i + 1][j], ofForests[i][j + 1]) + 1;
                    if (endOne[i] == endA && endTwo[j] == endB) {
                        boolean same = one.label[one.order[i]] == two.label[two.order[j]];
                        int paired = ofForests[i + 1][j + 1] + (same ? 0 : 1);
                        ofForests[i][j] = Math.min(oneOut, paired);
                        ofTrees[i][j] = ofForests[i][j];
                    } else {
                        int paired = ofTrees[i][j] + ofForests[endOne[i]][endTwo[j]];
                        ofForests[i][j] = Math.min(oneOut, paired);
                    }
                }
            }
        }
    }

    /** Puts two trees together over their base, and keeps the conflicts of the latest time. */
    private static final class Merging {
        private static final int NO_CONFLICT = 0;
        private static final int GONE_OR_CHANGED = 1;
        private static final int TWO_LABELS = 2;
        private static final int TWO_PARENTS = 3;
        private static final int PARENT_GONE = 4;
        private static final int NO_WAY_TO_ROOT = 5;
        private static final int KIND = 32;

        int conflicts = 0;
        final int[] conflictCode = new int[MAX_NODES];
        private final boolean[] stays = new boolean[MAX_NODES];
        private final int[] label = new int[MAX_NODES];
        private final int[] parent = new int[MAX_NODES];

        /** Says for each node whether it stays, its label and its parent: how many conflicts. */
        int judgeAll(Tree ours, Tree theirs, Tree origin) {
            conflicts = 0;
            for (int node = 0; node < MAX_NODES; node++) {
                note(node, judge(node, ours, theirs, origin));
            }
            if (conflicts == 0) {
                for (int node = 0; node < MAX_NODES; node++) {
                    note(node, parentIsGone(node) ? PARENT_GONE : NO_CONFLICT);
                }
            }
            if (conflicts == 0) {
                for (int node = 0; node < MAX_NODES; node++) {
                    note(node, stays[node] && !comesToRoot(node) ? NO_WAY_TO_ROOT : NO_CONFLICT);
                }
            }
            return conflicts;
        }

        private void note(int node, int kind) {
            if (kind != NO_CONFLICT) {
                conflictCode[conflicts] = node + KIND * kind;
                conflicts++;
            }
        }

        private int judge(int node, Tree ours, Tree theirs, Tree origin) {
            if (ours.has(node) && theirs.has(node)) {
                return judgeShared(node, ours, theirs, origin);
            }
            if (ours.has(node)) {
                return judgeSingle(node, ours, origin);
            }
            if (theirs.has(node)) {
                return judgeSingle(node, theirs, origin);
            }
            stays[node] = false;
            return NO_CONFLICT;
        }

        private int judgeSingle(int node, Tree only, Tree origin) {
            label[node] = only.label[node];
            parent[node] = only.parent[node];
            if (!origin.has(node)) {
                stays[node] = true;
                return NO_CONFLICT;
            }
            stays[node] = origin.label[node] != label[node] || origin.parent[node] != parent[node];
            return stays[node] ? GONE_OR_CHANGED : NO_CONFLICT;
        }

        private int judgeShared(int node, Tree ours, Tree theirs, Tree origin) {
            boolean known = origin.has(node);
            stays[node] = true;
            label[node] = choose(ours.label[node], theirs.label[node], known, origin.label[node]);
            parent[node] = choose(ours.parent[node], theirs.parent[node], known, origin.parent[node]);
            if (isTorn(ours.label[node], theirs.label[node], known, origin.label[node])) {
                return TWO_LABELS;
            }
            if (isTorn(ours.parent[node], theirs.parent[node], known, origin.parent[node])) {
                return TWO_PARENTS;
            }
            return NO_CONFLICT;
        }

        private boolean isTorn(int our, int their, boolean known, int old) {
            return our != their && !(known && (old == our || old == their));
        }

        private int choose(int our, int their, boolean known, int old) {
            return known && old == our ? their : our;
        }

        private boolean parentIsGone(int node) {
            return stays[node] && node != ROOT && !stays[parent[node]];
        }

        private boolean comesToRoot(int node) {
            int at = node;
            for (int i = 0; i < MAX_NODES && at != ROOT; i++) {
                at = parent[at];
            }
            return at == ROOT;
        }

        /** Makes a tree the merged one, when there are no conflicts. */
        void buildInto(Tree merged, Tree ours, Tree theirs) {
            merged.becomeRootAlone();
            System.arraycopy(label, 0, merged.label, 0, MAX_NODES);
            System.arraycopy(parent, 0, merged.parent, 0, MAX_NODES);
            for (int i = 0; i < MAX_NODES && i < merged.size; i++) {
                int children = gatherChildren(merged.order[i], merged.held, ours, theirs);
                merged.putHeld(i + 1, children);
            }
        }

        /** Writes the children of a node into a row, in their order: how many. */
        private int gatherChildren(int node, int[] row, Tree ours, Tree theirs) {
            int length = 0;
            for (int i = 1; i < ours.size; i++) {
                if (isChildIn(ours, ours.order[i], node)) {
                    row[length] = ours.order[i];
                    length++;
                }
            }
            int behind = 0;
            for (int i = 1; i < theirs.size; i++) {
                int next = theirs.order[i];
                if (isChildIn(theirs, next, node)) {
                    int at = placeIn(row, length, next);
                    if (at == NONE) {
                        at = behind;
                        System.arraycopy(row, at, row, at + 1, length - at);
                        row[at] = next;
                        length++;
                    }
                    behind = at + 1;
                }
            }
            return length;
        }

        private boolean isChildIn(Tree tree, int node, int above) {
            return stays[node] && parent[node] == above && tree.parent[node] == above;
        }

        private int placeIn(int[] row, int length, int node) {
            for (int i = 0; i < length; i++) {
                if (row[i] == node) {
                    return i;
                }
            }
            return NONE;
        }
    }
}
