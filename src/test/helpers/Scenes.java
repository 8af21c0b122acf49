import java.util.function.Supplier;
import java.util.function.ToIntFunction;

/** What the tests of the document's sentences share: how they are told, and states to begin with. */
abstract class Scenes {
    static final int BAD = -1;
    static final int DOWN = -2;
    static final int FULL = -3;
    static final int NONE = -4;
    static final int LEAST = Integer.MIN_VALUE;
    static final int MOST = Integer.MAX_VALUE;
    static final int[] NO_NODES = {-1, 3, 4, LEAST, MOST};
    static final int[] NO_CLIENTS = {-1, 0, 3, LEAST, MOST};
    static final int[] NO_SETS = {-1, 0, 16, 17, 31, LEAST, LEAST + 1, MOST};

    private static int sentences = 0;
    private static int wrong = 0;
    private static String where = "";

    /** Tests one sentence of the document. */
    static void says(String place, String words, Runnable test) {
        sentences++;
        where = place + ": \"" + words + "\"";
        try {
            test.run();
        } catch (RuntimeException thrown) {
            tell("a call threw " + thrown);
        }
    }

    static void end() {
        System.out.println(sentences + " sentences tested, " + wrong + " answers not as due");
        if (wrong != 0) {
            System.exit(1);
        }
    }

    static void due(String call, int got, int want) {
        if (got != want) {
            tell(call + " answered " + got + ", due is " + want);
        }
    }

    static void due(String call, boolean got, boolean want) {
        due(call, got ? 1 : 0, want ? 1 : 0);
    }

    private static void tell(String fault) {
        wrong++;
        System.out.println(where + "\n    " + fault);
    }

    static void dueTalk(PackExchange x, int sent, int acknowledged, int rounds) {
        due("talk(0)", x.talk(0), sent);
        due("talk(1)", x.talk(1), acknowledged);
        due("talk(2)", x.talk(2), rounds);
    }

    static void duePack(PackExchange x, int... objects) {
        due("packed", x.packed(), objects.length);
        for (int place = 0; place < objects.length; place++) {
            due("packAt(" + place + ")", x.packAt(place), objects[place]);
        }
        due("packAt behind the last place", x.packAt(objects.length), NONE);
    }

    static void dueVerdicts(PackExchange x, int... verdicts) {
        for (int r = 0; r < 4; r++) {
            due("verdict(" + r + ")", x.verdict(r), verdicts[r]);
        }
    }

    /** The node holds these objects and no others. */
    static void dueHeld(PackExchange x, int node, int... objects) {
        due("count(" + node + ")", x.count(node), objects.length);
        for (int object : objects) {
            due("holds(" + node + ", " + object + ")", x.holds(node, object), 1);
        }
    }

    /** The node has these values at its references from 0 on, and none at the others. */
    static void dueReferences(PackExchange x, int node, int... values) {
        for (int r = 0; r < 8; r++) {
            due("reference(" + node + ", " + r + ")", x.reference(node, r), r < values.length ? values[r] : NONE);
        }
    }

    /** A refused call leaves an object just as one on which it was not called. */
    static void dueNoChange(String what, Supplier<PackExchange> scene, int answer, ToIntFunction<PackExchange> call) {
        PackExchange touched = scene.get();
        due(what, call.applyAsInt(touched), answer);
        due(what + " leaves all as it was", stateOf(touched).equals(stateOf(scene.get())), true);
    }

    /** All that can be read, then what logs and power still allow. It takes up to 360 calls. */
    static String stateOf(PackExchange x) {
        StringBuilder state = new StringBuilder();
        state.append(x.up(0)).append(x.up(1)).append(x.up(2));
        for (int i = 0; i < 4; i++) {
            state.append(' ').append(x.talk(i)).append(' ').append(x.verdict(i));
        }
        int packed = x.packed();
        state.append(" pack ").append(packed).append(' ').append(x.weight());
        for (int place = 0; place < packed; place++) {
            state.append(' ').append(x.packAt(place)).append('/').append(x.base(place));
        }
        for (int node = 0; node < 3; node++) {
            state.append(" recover ").append(x.recover(node)).append(' ').append(x.recover(node));
            for (int r = 0; r < 8; r++) {
                state.append(' ').append(x.reference(node, r));
            }
            for (int object = 0; object < 60; object++) {
                state.append(' ').append(x.holds(node, object));
            }
        }
        for (int content = 700; content < 709; content++) {
            state.append(" blob ").append(x.blob(content % 3, content));
        }
        return state.toString();
    }

    /** Blob 0, tree 1 of it, and commit 2 of that at reference 0 of a node: seven writes. */
    static PackExchange oneCommit(int node) {
        PackExchange x = new PackExchange();
        makeOneCommit(x, node);
        return x;
    }

    static void makeOneCommit(PackExchange x, int node) {
        due("blob", x.blob(node, 7), 0);
        due("tree", x.tree(node, 0, -1), 1);
        due("commit", x.commit(node, 0, 1, -1), 2);
    }

    /** As oneCommit, with the commits 3 .. last above it at the same reference. */
    static PackExchange chain(int node, int last) {
        PackExchange x = oneCommit(node);
        for (int n = 3; n <= last; n++) {
            due("commit", x.commit(node, 0, 1, -1), n);
        }
        return x;
    }

    /** As oneCommit, with blobs up to the last number that there is. */
    static PackExchange full(int node) {
        PackExchange x = oneCommit(node);
        for (int n = 3; n < 60; n++) {
            due("blob", x.blob(node, n + 1000), n);
        }
        return x;
    }

    /** The server and client 1 hold the same commit 2; all references 0 .. 3 of the server are it. */
    static PackExchange heldByBoth() {
        PackExchange x = oneCommit(0);
        makeOneCommit(x, 1);
        for (int r = 1; r < 4; r++) {
            due("point", x.point(0, r, 2), 1);
        }
        return x;
    }

    /** Client 1 is down, after some of the writes of a transaction that sets 4 .. 3 + updates. */
    static PackExchange cutOff(int updates, int writes) {
        PackExchange x = heldByBoth();
        due("arm", x.arm(1, writes), true);
        due("a fetch that is cut off", x.fetch(1, (1 << updates) - 1), DOWN);
        return x;
    }

    /** References, talk, verdicts and a pack with a delta; each node is armed with two writes. */
    static PackExchange busy() {
        PackExchange x = chain(0, 4);
        due("fetch", x.fetch(1, 1), 5);
        due("point", x.point(1, 0, 4), 1);
        due("commit", x.commit(1, 0, 1, -1), 5);
        due("push", x.push(1, 1), 1);
        due("commit", x.commit(1, 0, 1, -1), 6);
        due("blob", x.blob(0, 8), 7);
        due("blob", x.blob(0, 9), 8);
        due("tree", x.tree(0, 7, 8), 9);
        due("commit", x.commit(0, 1, 9, 4), 10);
        due("fetch", x.fetch(1, 2), 4);
        for (int node = 0; node < 3; node++) {
            due("arm", x.arm(node, 2), true);
        }
        return x;
    }

    /** As busy, but a node is down with a sealed log, and armed with two writes again. */
    static PackExchange busyAndDown(int node) {
        PackExchange x = busy();
        due("arm", x.arm(node, -1), true);
        due("blob", x.blob(node, 7), 0);
        due("tree", x.tree(node, 0, -1), 1);
        due("commit", x.commit(node, 2, 1, -1), 2);
        due("arm", x.arm(node, 3), true);
        due("a point that is cut off", x.point(node, 3, 2), DOWN);
        due("arm", x.arm(node, 2), true);
        return x;
    }

    static void putDown(PackExchange x, int node) {
        due("arm", x.arm(node, 0), true);
        due("blob of a node without power", x.blob(node, 987654321), DOWN);
        due("up", x.up(node), false);
    }

    /** A pushed pack: one commit, a spine of trees, and these blobs, the last one first. */
    static PackExchange blobs(int... contents) {
        PackExchange x = new PackExchange();
        pushBlobs(x, 0, 0, contents);
        return x;
    }

    /** Client 1 makes the blobs from the number next on, and pushes them by reference r. */
    static void pushBlobs(PackExchange x, int r, int next, int... contents) {
        for (int i = 0; i < contents.length; i++) {
            due("blob", x.blob(1, contents[i]), next + i);
        }
        int top = x.tree(1, next, -1);
        for (int i = 1; i < contents.length; i++) {
            top = x.tree(1, next + i, top);
        }
        due("commit", x.commit(1, r, top, -1), next + 2 * contents.length);
        due("push", x.push(1, 1 << r), 1);
    }

    /** The bases of the pack of blobs(..), each as the count of blobs before it; -1 for whole. */
    static void dueBases(PackExchange x, int... bases) {
        int from = 1 + bases.length;
        for (int i = 0; i < bases.length; i++) {
            due("base of blob " + i, x.base(from + i), bases[i] < 0 ? NONE : from + bases[i]);
        }
    }
}
