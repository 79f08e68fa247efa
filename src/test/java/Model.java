import java.util.ArrayList;
import java.util.HashMap;
import java.util.HashSet;
import java.util.List;
import java.util.Map;
import java.util.NoSuchElementException;
import java.util.Set;
import java.util.TreeMap;
import java.util.TreeSet;

/** The document again, in its own words and without care for cost, to compare the class with. */
final class Model {
    /** A tree as a label, a parent and a row of children for each node. */
    static final class Plant {
        final Map<Integer, Integer> label = new TreeMap<>();
        final Map<Integer, Integer> parent = new TreeMap<>();
        final Map<Integer, List<Integer>> row = new TreeMap<>();

        Plant() {
            add(0, -1, 0);
        }

        Plant(Plant other) {
            label.putAll(other.label);
            parent.putAll(other.parent);
            other.row.forEach((node, children) -> row.put(node, new ArrayList<>(children)));
        }

        void add(int node, int above, int newLabel) {
            label.put(node, newLabel);
            parent.put(node, above);
            row.put(node, new ArrayList<>());
        }

        boolean has(int node) {
            return label.containsKey(node);
        }

        boolean same(Plant other) {
            return label.equals(other.label) && parent.equals(other.parent) && row.equals(other.row);
        }

        List<Integer> document() {
            return document(0);
        }

        List<Integer> document(int node) {
            List<Integer> order = new ArrayList<>();
            order.add(node);
            for (int child : row.get(node)) {
                order.addAll(document(child));
            }
            return order;
        }

        /** A text that two nodes share just when they are alike. */
        String shape(int node) {
            StringBuilder text = new StringBuilder().append(label.get(node)).append('(');
            for (int child : row.get(node)) {
                text.append(shape(child));
            }
            return text.append(')').toString();
        }
    }

    private Plant working = new Plant();
    private int made = 1;
    private final List<Plant> trees = new ArrayList<>(List.of(new Plant()));
    private final List<List<Integer>> parents = new ArrayList<>(List.of(List.of()));
    private int head = 0;
    private int taken = -1;
    private final List<Integer> conflicts = new ArrayList<>();
    private final Map<String, Integer> forestDistances = new HashMap<>();

    private static void unless(boolean fine, RuntimeException thrown) {
        if (!fine) {
            throw thrown;
        }
    }

    private void needNode(int node) {
        unless(working.has(node), new NoSuchElementException());
    }

    private void needCommit(int commit) {
        unless(commit >= 0 && commit < trees.size(), new NoSuchElementException());
    }

    int insert(int parent, int place, int label) {
        needNode(parent);
        unless(place >= 0 && place <= working.row.get(parent).size(), new IndexOutOfBoundsException());
        unless(label >= 0 && label <= 5, new IllegalArgumentException());
        unless(made < 24, new UnsupportedOperationException());
        working.add(made, parent, label);
        working.row.get(parent).add(place, made);
        return made++;
    }

    int delete(int node) {
        needNode(node);
        unless(node != 0, new IllegalArgumentException());
        List<Integer> gone = working.document(node);
        working.row.get(working.parent.get(node)).remove((Integer) node);
        for (int out : gone) {
            working.label.remove(out);
            working.parent.remove(out);
            working.row.remove(out);
        }
        return gone.size();
    }

    void move(int node, int parent, int place) {
        needNode(node);
        needNode(parent);
        unless(node != 0 && !working.document(node).contains(parent), new IllegalArgumentException());
        List<Integer> others = new ArrayList<>(working.row.get(parent));
        others.remove((Integer) node);
        unless(place >= 0 && place <= others.size(), new IndexOutOfBoundsException());
        working.row.get(working.parent.get(node)).remove((Integer) node);
        working.row.get(parent).add(place, node);
        working.parent.put(node, parent);
    }

    void relabel(int node, int label) {
        needNode(node);
        unless(label >= 0 && label <= 5, new IllegalArgumentException());
        working.label.put(node, label);
    }

    int commit() {
        unless(trees.size() < 12, new UnsupportedOperationException());
        trees.add(new Plant(working));
        parents.add(taken == -1 ? List.of(head) : List.of(head, taken));
        head = trees.size() - 1;
        taken = -1;
        return head;
    }

    void checkout(int commit) {
        needCommit(commit);
        working = new Plant(trees.get(commit));
        head = commit;
        taken = -1;
    }

    private Set<Integer> reached(int commit) {
        Set<Integer> set = new TreeSet<>();
        set.add(commit);
        for (int parent : parents.get(commit)) {
            set.addAll(reached(parent));
        }
        return set;
    }

    int base(int a, int b) {
        needCommit(a);
        needCommit(b);
        Set<Integer> common = reached(a);
        common.retainAll(reached(b));
        for (int candidate : common) {
            boolean behindAnother = false;
            for (int other : common) {
                behindAnother |= other != candidate && reached(other).contains(candidate);
            }
            if (!behindAnother) {
                return candidate;
            }
        }
        throw new AssertionError("two commits without a base");
    }

    int merge(int commit) {
        needCommit(commit);
        unless(working.same(trees.get(head)) && taken == -1, new IllegalStateException());
        Plant t = trees.get(commit);
        Plant o = trees.get(head);
        Plant b = trees.get(base(head, commit));
        Map<Integer, Integer> label = new TreeMap<>();
        Map<Integer, Integer> parent = new TreeMap<>();
        Map<Integer, Integer> kinds = new TreeMap<>();
        for (int node = 0; node < 24; node++) {
            if (o.has(node) || t.has(node)) {
                weigh(node, o, t, b, label, parent, kinds);
            }
        }
        if (kinds.isEmpty()) {
            for (int node : label.keySet()) {
                if (node != 0 && !label.containsKey(parent.get(node))) {
                    kinds.put(node, 4);
                }
            }
        }
        if (kinds.isEmpty()) {
            for (int node : label.keySet()) {
                if (!endsAtRoot(node, parent)) {
                    kinds.put(node, 5);
                }
            }
        }
        conflicts.clear();
        kinds.forEach((node, kind) -> conflicts.add(node + 32 * kind));
        if (kinds.isEmpty()) {
            working = together(o, t, label, parent);
            taken = commit;
        }
        return conflicts.size();
    }

    private static void weigh(int node, Plant o, Plant t, Plant b, Map<Integer, Integer> label,
            Map<Integer, Integer> parent, Map<Integer, Integer> kinds) {
        if (!o.has(node) || !t.has(node)) {
            Plant only = o.has(node) ? o : t;
            boolean asInBase = b.has(node) && b.label.get(node).equals(only.label.get(node))
                    && b.parent.get(node).equals(only.parent.get(node));
            if (asInBase) {
                return;
            }
            if (b.has(node)) {
                kinds.put(node, 1);
            }
            label.put(node, only.label.get(node));
            parent.put(node, only.parent.get(node));
            return;
        }
        Integer newLabel = side(o.label.get(node), t.label.get(node), b.label.get(node));
        Integer newParent = side(o.parent.get(node), t.parent.get(node), b.parent.get(node));
        if (newLabel == null) {
            kinds.put(node, 2);
        } else if (newParent == null) {
            kinds.put(node, 3);
        }
        label.put(node, newLabel);
        parent.put(node, newParent);
    }

    /** What two sides agree on, over what the base says (null when it has not the node), or null. */
    private static Integer side(Integer ours, Integer theirs, Integer old) {
        if (ours.equals(theirs) || theirs.equals(old)) {
            return ours;
        }
        return ours.equals(old) ? theirs : null;
    }

    private static boolean endsAtRoot(int node, Map<Integer, Integer> parent) {
        Set<Integer> seen = new HashSet<>();
        int at = node;
        while (at != 0 && seen.add(at)) {
            at = parent.get(at);
        }
        return at == 0;
    }

    private static Plant together(Plant o, Plant t, Map<Integer, Integer> label, Map<Integer, Integer> parent) {
        Plant merged = new Plant();
        label.forEach((node, text) -> merged.add(node, parent.get(node), text));
        for (int node : label.keySet()) {
            List<Integer> row = merged.row.get(node);
            row.addAll(stillChildren(o, node, parent));
            List<Integer> theirs = stillChildren(t, node, parent);
            for (int i = 0; i < theirs.size(); i++) {
                if (!row.contains(theirs.get(i))) {
                    row.add(i == 0 ? 0 : row.indexOf(theirs.get(i - 1)) + 1, theirs.get(i));
                }
            }
        }
        return merged;
    }

    private static List<Integer> stillChildren(Plant tree, int node, Map<Integer, Integer> parent) {
        List<Integer> children = new ArrayList<>();
        for (int child : tree.row.getOrDefault(node, List.of())) {
            if (parent.containsKey(child) && parent.get(child) == node) {
                children.add(child);
            }
        }
        return children;
    }

    int conflict(int k) {
        unless(k >= 0 && k < conflicts.size(), new NoSuchElementException());
        return conflicts.get(k);
    }

    int about(int node, int part) {
        needNode(node);
        unless(part >= 0 && part <= 3, new IndexOutOfBoundsException());
        return new int[] {working.label.get(node), working.parent.get(node), working.row.get(node).size(),
            working.document().indexOf(node)}[part];
    }

    int child(int node, int i) {
        needNode(node);
        unless(i >= 0 && i < working.row.get(node).size(), new IndexOutOfBoundsException());
        return working.row.get(node).get(i);
    }

    int nodes(boolean all) {
        return all ? made : working.label.size();
    }

    private Set<Integer> found(int path) {
        Set<Integer> set = new HashSet<>(Set.of(0));
        for (int i = 0; i < 6; i++) {
            int axis = path >>> 5 * i & 3;
            int label = path >>> 5 * i + 2 & 7;
            if (axis == 0) {
                break;
            }
            Set<Integer> next = new HashSet<>();
            for (int from : set) {
                for (int to : reachedBy(axis, from)) {
                    if (label >= 6 || working.label.get(to) == label) {
                        next.add(to);
                    }
                }
            }
            set = next;
        }
        return set;
    }

    private List<Integer> reachedBy(int axis, int from) {
        if (axis == 1) {
            return working.row.get(from);
        }
        if (axis == 2) {
            List<Integer> all = working.document(from);
            return all.subList(1, all.size());
        }
        if (from == 0) {
            return List.of();
        }
        List<Integer> row = working.row.get(working.parent.get(from));
        return row.subList(row.indexOf(from) + 1, row.size());
    }

    int count(int path) {
        return found(path).size();
    }

    int find(int path, int k) {
        List<Integer> order = working.document();
        order.retainAll(found(path));
        unless(k >= 0 && k < order.size(), new NoSuchElementException());
        return order.get(k);
    }

    int alike(int node) {
        needNode(node);
        for (int other : working.document()) {
            if (working.shape(other).equals(working.shape(node))) {
                return other;
            }
        }
        throw new AssertionError("a node is alike itself");
    }

    int distance(int a, int b) {
        needCommit(a);
        needCommit(b);
        return ofForests(trees.get(a).shape(0), trees.get(b).shape(0));
    }

    /** By the last tree of two forests, written as shapes: its root goes, the other's, or both are paired. */
    private int ofForests(String one, String two) {
        if (one.isEmpty() || two.isEmpty()) {
            return (one.length() + two.length()) / 3;
        }
        String key = one + '/' + two;
        Integer known = forestDistances.get(key);
        if (known != null) {
            return known;
        }
        int cutOne = lastTree(one);
        int cutTwo = lastTree(two);
        String lessOne = one.substring(0, cutOne);
        String lessTwo = two.substring(0, cutTwo);
        String innerOne = one.substring(cutOne + 2, one.length() - 1);
        String innerTwo = two.substring(cutTwo + 2, two.length() - 1);
        int relabelled = one.charAt(cutOne) == two.charAt(cutTwo) ? 0 : 1;
        int least = Math.min(ofForests(lessOne + innerOne, two), ofForests(one, lessTwo + innerTwo)) + 1;
        least = Math.min(least, ofForests(lessOne, lessTwo) + ofForests(innerOne, innerTwo) + relabelled);
        forestDistances.put(key, least);
        return least;
    }

    private static int lastTree(String forest) {
        int depth = 0;
        for (int i = forest.length() - 1; i >= 0; i--) {
            char c = forest.charAt(i);
            depth += c == ')' ? 1 : c == '(' ? -1 : 0;
            if (depth == 0) {
                return i - 1;
            }
        }
        throw new AssertionError("brackets do not fit");
    }

    int state(int what) {
        unless(what >= 0 && what <= 2, new IllegalArgumentException());
        return new int[] {trees.size(), head, taken}[what];
    }

    int above(int commit, int i) {
        needCommit(commit);
        unless(i == 0 || i == 1, new IndexOutOfBoundsException());
        return i < parents.get(commit).size() ? parents.get(commit).get(i) : -1;
    }
}
