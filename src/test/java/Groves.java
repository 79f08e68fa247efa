/** Groves that several tests begin with, and how tests look at them. */
final class Groves {
    /** Something done with a grove; what it answers is not looked at. */
    interface Use {
        void on(GroveMerge x);
    }

    private Groves() {
    }

    /** 0(1(3 4(6)) 2(5)), labels: 1:1 2:1 3:2 4:3 5:2 6:5. */
    static GroveMerge sample() {
        GroveMerge x = new GroveMerge();
        x.insert(0, 0, 1);
        x.insert(0, 1, 1);
        x.insert(1, 0, 2);
        x.insert(1, 1, 3);
        x.insert(2, 0, 2);
        x.insert(4, 0, 5);
        return x;
    }

    /** 1 and 2 stand over 0; 3 and 4 each have both as parents; 5 comes from 1 alone. */
    static GroveMerge crossed() {
        GroveMerge x = new GroveMerge();
        x.insert(0, 0, 1);
        x.commit();
        x.checkout(0);
        x.insert(0, 0, 2);
        x.commit();
        x.checkout(1);
        x.merge(2);
        x.commit();
        x.checkout(2);
        x.merge(1);
        x.commit();
        x.checkout(1);
        x.commit();
        return x;
    }

    /** Commit 1 is a grove as it was, 2 their line over it, 3 our line over it and the head. */
    static GroveMerge lines(GroveMerge x, Use theirs, Use ours) {
        x.commit();
        theirs.on(x);
        x.commit();
        x.checkout(1);
        ours.on(x);
        x.commit();
        return x;
    }

    /** A root with all the other 23 nodes as its children, in the order of their numbers. */
    static GroveMerge wide() {
        GroveMerge x = new GroveMerge();
        for (int i = 0; i < 23; i++) {
            x.insert(0, i, i % 6);
        }
        return x;
    }

    /** A chain of all 24 nodes, each below the one before it. */
    static GroveMerge chain() {
        GroveMerge x = new GroveMerge();
        for (int i = 0; i < 23; i++) {
            x.insert(i, 0, i % 6);
        }
        return x;
    }

    /** Twelve commits, each but the first over the one before it, with one node more in each of the first six. */
    static GroveMerge twelve() {
        GroveMerge x = new GroveMerge();
        for (int i = 1; i < 12; i++) {
            if (i < 6) {
                x.insert(0, 0, i);
            }
            x.commit();
        }
        return x;
    }

    /** The working tree as a text: each node with its label, and its children in brackets. */
    static String tree(GroveMerge x) {
        return tree(x, 0);
    }

    private static String tree(GroveMerge x, int node) {
        StringBuilder text = new StringBuilder().append(node).append(':').append(x.about(node, 0));
        int children = x.about(node, 2);
        for (int i = 0; i < children; i++) {
            text.append(i == 0 ? "(" : " ").append(tree(x, x.child(node, i)));
        }
        return text.append(children == 0 ? "" : ")").toString();
    }

    /** All that calls can tell of a grove; it uses the grove up, since commits are only seen by a checkout. */
    static String wholeState(GroveMerge x) {
        StringBuilder text = new StringBuilder(tree(x));
        for (int node = 0; node < 24; node++) {
            int n = node;
            text.append(' ').append(Check.answer(() -> x.about(n, 1))).append(Check.answer(() -> x.about(n, 3)));
        }
        text.append(" nodes ").append(x.nodes(false)).append(' ').append(x.nodes(true));
        text.append(" state ").append(x.state(0)).append(' ').append(x.state(1)).append(' ').append(x.state(2));
        appendConflicts(text, x);
        text.append(" merge ").append(Check.answer(() -> x.merge(x.state(1)))).append(' ').append(x.state(2));
        appendCommits(text, x);
        text.append(" next ").append(Check.answer(() -> x.insert(0, 0, 0))).append(' ').append(Check.answer(x::commit));
        return text.toString();
    }

    private static void appendConflicts(StringBuilder text, GroveMerge x) {
        text.append(" conflicts");
        String conflict = "";
        for (int k = 0; k < 24 && !conflict.startsWith("throws"); k++) {
            int number = k;
            conflict = Check.answer(() -> x.conflict(number));
            text.append(' ').append(conflict);
        }
    }

    private static void appendCommits(StringBuilder text, GroveMerge x) {
        for (int commit = 0; commit < x.state(0); commit++) {
            x.checkout(commit);
            text.append(" commit ").append(x.above(commit, 0)).append(' ').append(x.above(commit, 1));
            text.append(' ').append(x.base(commit, x.state(0) - 1)).append(' ').append(x.distance(0, commit));
            text.append(' ').append(tree(x));
        }
    }

    static int path(int... steps) {
        int path = 0;
        for (int i = 0; i < steps.length; i++) {
            path |= steps[i] << 5 * i;
        }
        return path;
    }

    static int step(int axis, int label) {
        return axis + 4 * label;
    }
}
