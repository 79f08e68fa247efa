import java.util.ArrayDeque;
import java.util.ArrayList;
import java.util.Deque;
import java.util.HashMap;
import java.util.LinkedHashSet;
import java.util.List;
import java.util.Map;
import java.util.Set;

/**
 * The distance by the document's own steps: all small trees with two labels, each pair compared with the
 * shortest way from one to the other over trees that may be one node larger than both.
 */
final class DistanceTest {
    private static final int LARGEST = 4;
    private static final String LABELS = "01";

    public static void main(String[] args) {
        Check check = new Check("DistanceTest");
        List<String> trees = new ArrayList<>();
        for (int size = 1; size <= LARGEST; size++) {
            trees.addAll(treesOf(size));
        }
        check.same("how many trees", trees.size(), 2 + 4 + 16 + 80);
        Map<String, Set<String>> steps = new HashMap<>();
        for (String one : trees) {
            Map<String, Integer> far = waysFrom(one, steps);
            for (String two : trees) {
                check.is("distance of " + one + " and " + two, far.get(two), () -> answered(one, two));
            }
        }
        check.end();
    }

    /** All forests of so many nodes, a tree written as its label and its children in brackets. */
    private static List<String> forestsOf(int size) {
        if (size == 0) {
            return List.of("");
        }
        List<String> forests = new ArrayList<>();
        for (int first = 1; first <= size; first++) {
            for (String tree : treesOf(first)) {
                for (String rest : forestsOf(size - first)) {
                    forests.add(tree + rest);
                }
            }
        }
        return forests;
    }

    private static List<String> treesOf(int size) {
        List<String> trees = new ArrayList<>();
        for (String inner : forestsOf(size - 1)) {
            for (char label : LABELS.toCharArray()) {
                trees.add(label + "(" + inner + ")");
            }
        }
        return trees;
    }

    private static Map<String, Integer> waysFrom(String start, Map<String, Set<String>> steps) {
        Map<String, Integer> far = new HashMap<>(Map.of(start, 0));
        Deque<String> open = new ArrayDeque<>(List.of(start));
        while (!open.isEmpty()) {
            String tree = open.remove();
            for (String next : steps.computeIfAbsent(tree, DistanceTest::stepsFrom)) {
                if (far.putIfAbsent(next, far.get(tree) + 1) == null) {
                    open.add(next);
                }
            }
        }
        return far;
    }

    private static Set<String> stepsFrom(String tree) {
        Set<String> next = new LinkedHashSet<>();
        for (int at = 0; at < tree.length(); at++) {
            if (Character.isDigit(tree.charAt(at))) {
                int close = closing(tree, at + 1);
                for (char label : LABELS.toCharArray()) {
                    next.add(tree.substring(0, at) + label + tree.substring(at + 1));
                }
                String inner = tree.substring(at + 2, close);
                if (at != 0 || treesIn(inner).size() == 1) {
                    next.add(tree.substring(0, at) + inner + tree.substring(close + 1));
                }
                addWithOneMore(tree, at, next);
            }
        }
        addAbove(tree, next);
        return next;
    }

    /** One is put in as a child of the node at a place and the parent of some of its children. */
    private static void addWithOneMore(String tree, int at, Set<String> next) {
        if (tree.length() / 3 > LARGEST) {
            return;
        }
        int close = closing(tree, at + 1);
        List<String> children = treesIn(tree.substring(at + 2, close));
        for (int from = 0; from <= children.size(); from++) {
            for (int to = from; to <= children.size(); to++) {
                for (char label : LABELS.toCharArray()) {
                    next.add(tree.substring(0, at + 2) + String.join("", children.subList(0, from)) + label + "("
                            + String.join("", children.subList(from, to)) + ")"
                            + String.join("", children.subList(to, children.size())) + tree.substring(close));
                }
            }
        }
    }

    private static void addAbove(String tree, Set<String> next) {
        if (tree.length() / 3 <= LARGEST) {
            for (char label : LABELS.toCharArray()) {
                next.add(label + "(" + tree + ")");
            }
        }
    }

    private static int closing(String tree, int open) {
        int depth = 0;
        for (int i = open; i < tree.length(); i++) {
            depth += tree.charAt(i) == '(' ? 1 : tree.charAt(i) == ')' ? -1 : 0;
            if (depth == 0) {
                return i;
            }
        }
        throw new AssertionError("brackets do not fit");
    }

    private static List<String> treesIn(String forest) {
        List<String> trees = new ArrayList<>();
        int from = 0;
        while (from < forest.length()) {
            int end = closing(forest, from + 1) + 1;
            trees.add(forest.substring(from, end));
            from = end;
        }
        return trees;
    }

    private static int answered(String one, String two) {
        GroveMerge x = new GroveMerge();
        plant(x, one);
        int a = x.commit();
        x.checkout(0);
        plant(x, two);
        int b = x.commit();
        return x.distance(a, b);
    }

    private static void plant(GroveMerge x, String tree) {
        x.relabel(0, tree.charAt(0) - '0');
        plantBelow(x, 0, tree);
    }

    private static void plantBelow(GroveMerge x, int node, String tree) {
        List<String> children = treesIn(tree.substring(2, tree.length() - 1));
        for (int i = 0; i < children.size(); i++) {
            int child = x.insert(node, i, children.get(i).charAt(0) - '0');
            plantBelow(x, child, children.get(i));
        }
    }
}
