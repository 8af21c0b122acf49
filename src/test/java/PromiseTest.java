/** For each promise the ordinary inputs, the edges that the document names, and wrong inputs. */
public final class PromiseTest {
    private static final int BAD = -1;
    private static final int DOWN = -2;
    private static final int FULL = -3;
    private static final int NONE = -4;
    private static final int[] WRONG_NODES = {-1, 3, Integer.MIN_VALUE, Integer.MAX_VALUE};

    private static int wrong = 0;
    private static int promise = 0;

    private static void due(String call, int got, int want) {
        if (got != want) {
            wrong++;
            System.out.println("promise " + promise + ": " + call + " answered " + got + ", due is " + want);
        }
    }

    private static void due(String call, boolean got, boolean want) {
        due(call, got ? 1 : 0, want ? 1 : 0);
    }

    public static void main(String[] args) {
        for (promise = 1; promise <= 20; promise++) {
            test(promise);
        }
        System.out.println(wrong == 0 ? "all promises hold" : wrong + " answers are not as due");
        if (wrong != 0) {
            System.exit(1);
        }
    }

    private static void test(int number) {
        switch (number) {
            case 1 -> aNewObject();
            case 2 -> blob();
            case 3 -> tree();
            case 4 -> commit();
            case 5 -> point();
            case 6 -> fetch();
            case 7 -> push();
            case 8 -> arm();
            case 9 -> recover();
            case 10 -> collect();
            case 11 -> up();
            case 12 -> reference();
            case 13 -> holds();
            case 14 -> count();
            case 15 -> talk();
            case 16 -> packed();
            case 17 -> packAt();
            case 18 -> base();
            case 19 -> weight();
            default -> verdict();
        }
    }

    /** Blob 0, tree 1 of it, and commit 2 of that at reference 0 of a node. */
    private static PackExchange oneCommit(int node) {
        PackExchange x = new PackExchange();
        due("blob", x.blob(node, 7), 0);
        due("tree", x.tree(node, 0, -1), 1);
        due("commit", x.commit(node, 0, 1, -1), 2);
        return x;
    }

    /** As oneCommit, with the commits 3 .. last above it at the same reference. */
    private static PackExchange chain(int node, int last) {
        PackExchange x = oneCommit(node);
        for (int n = 3; n <= last; n++) {
            due("commit", x.commit(node, 0, 1, -1), n);
        }
        return x;
    }

    private static void putDown(PackExchange x, int node) {
        due("arm", x.arm(node, 0), true);
        due("blob of an armed node", x.blob(node, 987654321), DOWN);
        due("up", x.up(node), false);
    }

    private static PackExchange full(int node) {
        PackExchange x = oneCommit(node);
        for (int n = 3; n < 60; n++) {
            due("blob", x.blob(node, n + 1000), n);
        }
        return x;
    }

    private static void aNewObject() {
        PackExchange x = new PackExchange();
        for (int node = 0; node < 3; node++) {
            due("up", x.up(node), true);
            due("count", x.count(node), 0);
            due("holds", x.holds(node, 0), 0);
            for (int r = 0; r < 8; r++) {
                due("reference", x.reference(node, r), NONE);
            }
        }
        for (int i = 0; i < 3; i++) {
            due("talk", x.talk(i), 0);
        }
        due("packed", x.packed(), 0);
        due("packAt", x.packAt(0), NONE);
        due("base", x.base(0), NONE);
        due("weight", x.weight(), 0);
        for (int r = 0; r < 4; r++) {
            due("verdict", x.verdict(r), 0);
        }
        due("the first object", x.blob(2, -1), 0);
        PackExchange y = new PackExchange();
        due("another new object", y.count(2), 0);
        for (int i = 0; i < 55; i++) {
            due("blob: a new node is not armed", y.blob(0, i), i);
        }
    }

    private static void blob() {
        PackExchange x = new PackExchange();
        due("blob", x.blob(0, 5), 0);
        due("blob", x.blob(1, -5), 1);
        due("the same blob", x.blob(0, 5), 0);
        due("the same blob on another node", x.blob(2, 5), 0);
        due("holds", x.holds(2, 0), 1);
        due("holds", x.holds(2, 1), 0);
        for (int node : WRONG_NODES) {
            due("blob of no node", x.blob(node, 5), BAD);
        }
        due("arm", x.arm(1, 0), true);
        due("a blob that it holds is no write", x.blob(1, -5), 1);
        due("a blob that it does not hold", x.blob(1, 5), DOWN);
        due("blob of a node that is down", x.blob(1, -5), DOWN);
        due("recover", x.recover(1), 0);
        due("not written", x.holds(1, 0), 0);

        x = new PackExchange();
        due("arm", x.arm(0, 0), true);
        due("blob", x.blob(0, 100), DOWN);
        due("a blob that was not written has no number", x.blob(1, 200), 0);

        x = full(1);
        due("a 61st object", x.blob(1, 0), FULL);
        due("one there is", x.blob(0, 7), 0);
        due("arm", x.arm(2, 0), true);
        due("FULL is told without a write", x.blob(2, 0), FULL);
        due("up", x.up(2), true);
        due("power ends", x.blob(2, 7), DOWN);
        due("DOWN before FULL", x.blob(2, 0), DOWN);
    }

    private static void tree() {
        PackExchange x = oneCommit(1);
        due("blob", x.blob(1, 8), 3);
        due("two entries", x.tree(1, 0, 3), 4);
        due("their order counts", x.tree(1, 3, 0), 5);
        due("the same entry twice", x.tree(1, 0, 0), 6);
        due("a tree as entry", x.tree(1, 4, 1), 7);
        due("the same", x.tree(1, 0, 3), 4);
        due("the same", x.tree(1, 0, -1), 1);
        int[] wrongEntries = {-2, -1, 2, 8, 59, 60, 64, 65, Integer.MAX_VALUE, Integer.MIN_VALUE};
        for (int entry : wrongEntries) {
            due("a wrong first entry", x.tree(1, entry, -1), BAD);
            due("a wrong first entry", x.tree(1, entry, 0), BAD);
            if (entry != -1) {
                due("a wrong second entry", x.tree(1, 0, entry), BAD);
            }
        }
        due("an entry that this node does not hold", x.tree(2, 0, -1), BAD);
        due("blob", x.blob(2, 7), 0);
        due("the same tree elsewhere", x.tree(2, 0, -1), 1);
        due("an entry that this node does not hold", x.tree(2, 0, 3), BAD);
        for (int node : WRONG_NODES) {
            due("tree of no node", x.tree(node, 0, -1), BAD);
        }
        putDown(x, 2);
        due("DOWN before wrong entries", x.tree(2, 99, -1), DOWN);
        due("arm", x.arm(1, 0), true);
        due("one write", x.tree(1, 7, 7), DOWN);

        x = full(0);
        due("a 61st object", x.tree(0, 1, 0), FULL);
        due("BAD before FULL", x.tree(0, 2, 0), BAD);
        due("one there is", x.tree(0, 0, -1), 1);
    }

    private static void commit() {
        PackExchange x = oneCommit(1);
        due("the reference is set", x.reference(1, 0), 2);
        due("the reference is the parent", x.commit(1, 0, 1, -1), 3);
        due("other is the only parent", x.commit(1, 1, 1, 2), 3);
        due("the same commit is the same object", x.reference(1, 1), 3);
        due("no parent", x.commit(1, 2, 1, -1), 2);
        due("two parents", x.commit(1, 0, 1, 2), 4);
        due("two parents the other way", x.commit(1, 2, 1, 3), 5);
        due("other is the reference", x.commit(1, 2, 1, 5), BAD);
        due("no tree", x.commit(1, 3, 0, -1), BAD);
        due("no tree", x.commit(1, 3, 2, -1), BAD);
        due("no object", x.commit(1, 3, 40, -1), BAD);
        due("no object", x.commit(1, 3, -1, -1), BAD);
        due("other is a tree", x.commit(1, 3, 1, 1), BAD);
        due("other is a blob", x.commit(1, 3, 1, 0), BAD);
        due("other is nothing", x.commit(1, 3, 1, 40), BAD);
        due("other is nothing", x.commit(1, 3, 1, -2), BAD);
        due("nothing changed", x.reference(1, 3), NONE);
        due("nothing changed", x.count(1), 6);
        for (int r : new int[] {-1, 4, 7, Integer.MAX_VALUE, Integer.MIN_VALUE}) {
            due("no reference", x.commit(1, r, 1, -1), BAD);
        }
        for (int node : WRONG_NODES) {
            due("no node", x.commit(node, 0, 1, -1), BAD);
        }
        due("a tree that this node does not hold", x.commit(0, 0, 1, -1), BAD);
        putDown(x, 2);
        due("no reference before DOWN", x.commit(2, 4, 1, -1), BAD);
        due("DOWN before no tree", x.commit(2, 0, 1, -1), DOWN);
        commitWrites();

        x = full(2);
        due("a 61st object", x.commit(2, 0, 1, -1), FULL);
        due("nothing changed", x.reference(2, 0), 2);
        due("BAD before FULL", x.commit(2, 0, 1, 2), BAD);
        due("one there is", x.commit(2, 1, 1, -1), 2);
    }

    /** The writes: the object, a note, the seal, the update, the emptying. */
    private static void commitWrites() {
        for (int n = 0; n <= 5; n++) {
            PackExchange x = oneCommit(1);
            due("arm", x.arm(1, n), true);
            due("commit after " + n + " writes", x.commit(1, 0, 1, -1), n == 5 ? 3 : DOWN);
            due("recover", x.recover(1), n == 5 ? BAD : n >= 3 ? 1 : 0);
            due("reference", x.reference(1, 0), n >= 3 ? 3 : 2);
            due("holds", x.holds(1, 3), n >= 1 ? 1 : 0);
        }
    }

    private static void point() {
        PackExchange x = chain(1, 3);
        due("point", x.point(1, 3, 2), 1);
        due("reference", x.reference(1, 3), 2);
        due("that already", x.point(1, 3, 2), 0);
        due("none", x.point(1, 3, -1), 1);
        due("reference", x.reference(1, 3), NONE);
        due("none already", x.point(1, 3, -1), 0);
        due("another", x.point(1, 0, 2), 1);
        for (int commit : new int[] {-2, 0, 1, 4, 60, 66, Integer.MAX_VALUE, Integer.MIN_VALUE}) {
            due("no commit", x.point(1, 0, commit), BAD);
        }
        due("a commit that this node does not hold", x.point(0, 0, 2), BAD);
        for (int r : new int[] {-1, 4, 5, 7, 8, Integer.MIN_VALUE}) {
            due("no reference", x.point(1, r, 2), BAD);
        }
        for (int node : WRONG_NODES) {
            due("no node", x.point(node, 0, 2), BAD);
        }
        due("nothing changed", x.reference(1, 0), 2);
        due("arm", x.arm(1, 4), true);
        due("four writes", x.point(1, 0, 3), 1);
        due("no write", x.point(1, 0, 3), 0);
        due("a fifth", x.point(1, 0, 2), DOWN);
        due("DOWN before no commit", x.point(1, 0, 77), DOWN);
        due("BAD before DOWN", x.point(1, 4, 2), BAD);
        due("recover", x.recover(1), 0);
        due("reference", x.reference(1, 0), 3);
    }

    private static void fetch() {
        PackExchange x = chain(0, 3);
        due("point", x.point(0, 2, 2), 1);
        for (int set : new int[] {0, 16, 17, -1, Integer.MIN_VALUE, Integer.MAX_VALUE}) {
            due("a wrong set", x.fetch(1, set), BAD);
        }
        for (int client : new int[] {0, 3, -1, Integer.MAX_VALUE}) {
            due("a wrong client", x.fetch(client, 1), BAD);
        }
        due("a reference that is none", x.fetch(1, 2), 0);
        due("nothing fetched", x.count(1), 0);
        due("one reference", x.fetch(1, 4), 3);
        due("reference 6", x.reference(1, 6), 2);
        due("reference 4", x.reference(1, 4), NONE);
        due("holds", x.holds(1, 3), 0);
        due("all", x.fetch(1, 15), 1);
        due("reference 4", x.reference(1, 4), 3);
        due("reference 5", x.reference(1, 5), NONE);
        due("its own are not set", x.reference(1, 0), NONE);
        due("the server's are not set", x.reference(0, 4), NONE);
        due("again", x.fetch(1, 15), 0);
        due("point", x.point(0, 2, -1), 1);
        due("none now", x.fetch(1, 15), 0);
        due("what is none on the server stays", x.reference(1, 6), 2);
        due("point", x.point(0, 0, 2), 1);
        due("no want, but a transaction", x.fetch(1, 1), 0);
        due("reference 4", x.reference(1, 4), 2);
        fetchWrites();
        fetchOfWhatIsHeld();
    }

    /** Three objects from the lowest number on, two notes, the seal, two updates, the emptying. */
    private static void fetchWrites() {
        for (int n = 0; n <= 9; n++) {
            PackExchange x = oneCommit(0);
            due("point", x.point(0, 3, 2), 1);
            due("arm", x.arm(1, n), true);
            due("arm: the server writes nothing", x.arm(0, 0), true);
            due("fetch after " + n + " writes", x.fetch(1, 9), n == 9 ? 3 : DOWN);
            due("the pack stands", x.packed(), 3);
            due("up", x.up(1), n == 9);
            due("fetch by a node that is down", x.fetch(1, 9), n == 9 ? 0 : DOWN);
            due("recover", x.recover(1), n == 9 ? BAD : n >= 6 ? 2 : 0);
            due("count", x.count(1), Math.min(n, 3));
            due("holds 0", x.holds(1, 0), n >= 1 ? 1 : 0);
            due("holds 2", x.holds(1, 2), n >= 3 ? 1 : 0);
            due("reference 4", x.reference(1, 4), n >= 6 ? 2 : NONE);
            due("reference 7", x.reference(1, 7), n >= 6 ? 2 : NONE);
        }
        PackExchange x = oneCommit(0);
        putDown(x, 0);
        due("the server is down", x.fetch(1, 1), DOWN);
        due("BAD before DOWN", x.fetch(1, 0), BAD);
    }

    /** Objects in the pack that the client holds already are counted, but not written. */
    private static void fetchOfWhatIsHeld() {
        PackExchange x = oneCommit(0);
        due("blob", x.blob(1, 7), 0);
        due("tree", x.tree(1, 0, -1), 1);
        due("arm", x.arm(1, 5), true);
        due("fetch", x.fetch(1, 1), 3);
        due("up", x.up(1), true);
        due("the sixth write", x.blob(1, 1), DOWN);
    }

    private static void push() {
        PackExchange x = chain(1, 3);
        for (int set : new int[] {0, 16, -1, Integer.MIN_VALUE, Integer.MAX_VALUE}) {
            due("a wrong set", x.push(1, set), BAD);
        }
        for (int client : new int[] {0, 3, -1, Integer.MAX_VALUE}) {
            due("a wrong client", x.push(client, 1), BAD);
        }
        due("a reference that is none", x.push(1, 2), BAD);
        due("one of them is none", x.push(1, 3), BAD);
        due("push", x.push(1, 1), 1);
        due("reference of the server", x.reference(0, 0), 3);
        due("reference of the client", x.reference(1, 4), 3);
        due("count", x.count(0), 4);
        due("push again", x.push(1, 1), 1);
        due("nothing to send", x.packed(), 0);
        due("back", x.point(1, 0, 2), 1);
        due("sideways", x.push(1, 1), 0);
        due("nothing changed", x.reference(0, 0), 3);
        due("nothing changed", x.reference(1, 4), 3);
        due("another", x.point(1, 1, 2), 1);
        due("one of two is refused", x.push(1, 3), 0);
        due("so none is set", x.reference(0, 1), NONE);
        due("the other alone", x.push(1, 2), 1);
        due("the server has it", x.packed(), 0);
        due("reference", x.reference(0, 1), 2);
        putDown(x, 2);
        due("the client is down", x.push(2, 1), DOWN);
        due("the other client is not needed", x.push(1, 2), 1);
        putDown(x, 0);
        due("DOWN before none", x.push(1, 8), DOWN);
        due("BAD before DOWN", x.push(1, 16), BAD);
        pushServerWrites();
        pushClientWrites();
        pushLeavesOutWhatBothKnow();
    }

    /** Three objects, two notes, the seal, two updates, the emptying. */
    private static void pushServerWrites() {
        for (int n = 0; n <= 9; n++) {
            PackExchange x = oneCommit(2);
            due("point", x.point(2, 1, 2), 1);
            due("arm", x.arm(0, n), true);
            due("push after " + n + " writes", x.push(2, 3), n == 9 ? 1 : DOWN);
            due("up", x.up(0), n == 9);
            due("the client is up", x.up(2), true);
            due("reference of the client", x.reference(2, 4), n == 9 ? 2 : NONE);
            due("recover", x.recover(0), n == 9 ? BAD : n >= 6 ? 2 : 0);
            due("count", x.count(0), Math.min(n, 3));
            due("holds 0", x.holds(0, 0), n >= 1 ? 1 : 0);
            due("reference 0", x.reference(0, 0), n >= 6 ? 2 : NONE);
            due("reference 1", x.reference(0, 1), n >= 6 ? 2 : NONE);
        }
    }

    private static void pushClientWrites() {
        for (int n = 0; n <= 6; n++) {
            PackExchange x = oneCommit(2);
            due("point", x.point(2, 1, 2), 1);
            due("arm", x.arm(2, n), true);
            due("push after " + n + " writes", x.push(2, 3), n == 6 ? 1 : DOWN);
            due("reference of the server", x.reference(0, 1), 2);
            due("recover", x.recover(2), n == 6 ? BAD : n >= 3 ? 2 : 0);
            due("reference 4", x.reference(2, 4), n >= 3 ? 2 : NONE);
            due("reference 5", x.reference(2, 5), n >= 3 ? 2 : NONE);
        }
    }

    /** Any of the server's references counts, but only when the client holds that commit. */
    private static void pushLeavesOutWhatBothKnow() {
        PackExchange x = chain(1, 3);
        due("push", x.push(1, 1), 1);
        due("point", x.point(1, 3, 3), 1);
        due("commit", x.commit(1, 3, 1, -1), 4);
        due("push of another reference", x.push(1, 8), 1);
        due("only the new commit", x.packed(), 1);
        due("blob", x.blob(2, 7), 0);
        due("tree", x.tree(2, 0, -1), 1);
        due("commit", x.commit(2, 1, 1, -1), 2);
        due("arm", x.arm(0, 4), true);
        due("the client holds neither 3 nor 4", x.push(2, 2), 1);
        due("all of it", x.packed(), 3);
        due("yet the server wrote no object", x.up(0), true);
        due("count", x.count(0), 5);
        due("the four writes are used up", x.blob(0, 1), DOWN);
    }

    private static void arm() {
        PackExchange x = new PackExchange();
        for (int node : WRONG_NODES) {
            due("no node", x.arm(node, 1), false);
        }
        due("n too low", x.arm(0, -2), false);
        due("n too high", x.arm(0, 101), false);
        due("n far too low", x.arm(0, Integer.MIN_VALUE), false);
        due("n far too high", x.arm(0, Integer.MAX_VALUE), false);
        due("arm", x.arm(0, 1), true);
        due("refused: what was armed stays", x.arm(0, 101), false);
        due("one write", x.blob(0, 1), 0);
        due("no other", x.blob(0, 2), DOWN);
        due("a node that is down", x.arm(0, 2), true);
        due("recover", x.recover(0), 0);
        due("first", x.blob(0, 2), 1);
        due("second", x.blob(0, 3), 2);
        due("third", x.blob(0, 4), DOWN);
        due("recover", x.recover(0), 0);
        due("armed no more", x.blob(0, 4), 3);
        due("arm", x.arm(0, 0), true);
        due("in its place", x.arm(0, 1), true);
        due("one write", x.blob(0, 5), 4);
        due("disarm", x.arm(0, -1), true);
        due("not armed", x.blob(0, 6), 5);
        due("the highest", x.arm(1, 100), true);
        for (int i = 0; i < 25; i++) {
            due("blob, one write each", x.blob(1, 100 + i), 6 + i);
        }
        due("tree", x.tree(1, 6, -1), 31);
        due("commit", x.commit(1, 0, 31, -1), 32);
        for (int i = 0; i < 17; i++) {
            due("four writes", x.point(1, 0, i % 2 == 0 ? -1 : 32), 1);
        }
        due("the 100th write", x.blob(1, 1), 0);
        due("the 101st write", x.blob(1, 2), DOWN);
    }

    private static void recover() {
        PackExchange x = oneCommit(1);
        for (int node : WRONG_NODES) {
            due("no node", x.recover(node), BAD);
        }
        due("up", x.recover(1), BAD);
        due("point", x.point(1, 1, 2), 1);
        due("point", x.point(1, 2, 2), 1);

        // A sealed log of three updates on the server, none of them carried out.
        due("arm", x.arm(0, 7), true);
        due("push", x.push(1, 7), DOWN);
        due("arm", x.arm(0, 2), true);
        due("power ends at the third update", x.recover(0), DOWN);
        due("down", x.up(0), false);
        due("arm", x.arm(0, 3), true);
        due("power ends at the emptying", x.recover(0), DOWN);
        due("arm: all are carried out again", x.arm(0, 4), true);
        due("recover", x.recover(0), 3);
        due("up", x.up(0), true);
        for (int r = 0; r < 3; r++) {
            due("reference", x.reference(0, r), 2);
        }
        due("four writes", x.blob(0, 1), DOWN);
        due("an empty log", x.recover(0), 0);
        recoverWithoutSeal();
    }

    private static void recoverWithoutSeal() {
        PackExchange x = oneCommit(1);
        due("arm", x.arm(1, 1), true);
        due("point", x.point(1, 3, 2), DOWN);
        due("arm", x.arm(1, 0), true);
        due("the emptying is a write", x.recover(1), DOWN);
        due("still down", x.reference(1, 3), DOWN);
        due("armed no more", x.recover(1), 0);
        due("not set", x.reference(1, 3), NONE);
        due("the log is empty", x.point(1, 2, 2), 1);
        due("only that one", x.reference(1, 3), NONE);
        putDown(x, 1);
        due("arm", x.arm(1, 0), true);
        due("an empty log needs no write", x.recover(1), 0);
        due("still armed", x.blob(1, 55), DOWN);
    }

    private static void collect() {
        PackExchange x = chain(1, 3);
        for (int node : WRONG_NODES) {
            due("no node", x.collect(node), BAD);
        }
        due("nothing", x.collect(0), 0);
        due("all is reached", x.collect(1), 0);
        due("blob", x.blob(1, 8), 4);
        due("tree", x.tree(1, 4, 0), 5);
        due("arm", x.arm(1, 0), true);
        due("no write", x.collect(1), 2);
        due("up", x.up(1), true);
        due("disarm", x.arm(1, -1), true);
        due("holds", x.holds(1, 4), 0);
        due("holds what the tree had too", x.holds(1, 0), 1);
        due("push", x.push(1, 1), 1);
        due("point", x.point(1, 0, -1), 1);
        due("reference 4 keeps it", x.collect(1), 0);
        due("back", x.point(0, 0, 2), 1);
        due("the upper commit", x.collect(0), 1);
        due("the server's alone", x.holds(1, 3), 1);
        due("none", x.point(0, 0, -1), 1);
        due("all of it", x.collect(0), 3);
        due("count", x.count(0), 0);
        due("what was given up is no entry", x.tree(1, 4, -1), BAD);
        due("it comes back with its number", x.blob(2, 8), 4);
        putDown(x, 0);
        due("down", x.collect(0), DOWN);
    }

    private static void up() {
        PackExchange x = new PackExchange();
        for (int node : WRONG_NODES) {
            due("no node", x.up(node), false);
        }
        putDown(x, 1);
        due("the others", x.up(0), true);
        due("the others", x.up(2), true);
        due("recover", x.recover(1), 0);
        due("up again", x.up(1), true);
    }

    private static void reference() {
        PackExchange x = oneCommit(1);
        due("reference", x.reference(1, 0), 2);
        due("none", x.reference(1, 3), NONE);
        due("none", x.reference(1, 7), NONE);
        for (int r : new int[] {-1, 8, Integer.MIN_VALUE, Integer.MAX_VALUE}) {
            due("no reference", x.reference(1, r), BAD);
        }
        for (int node : WRONG_NODES) {
            due("no node", x.reference(node, 0), BAD);
        }
        putDown(x, 1);
        due("down", x.reference(1, 0), DOWN);
        due("BAD before DOWN", x.reference(1, 8), BAD);
    }

    private static void holds() {
        PackExchange x = oneCommit(1);
        due("holds", x.holds(1, 2), 1);
        due("another node", x.holds(0, 2), 0);
        for (int object : new int[] {-1, 3, 59, 60, 63, 64, 65, 128, Integer.MIN_VALUE, Integer.MAX_VALUE}) {
            due("no such object", x.holds(1, object), 0);
        }
        for (int node : WRONG_NODES) {
            due("no node", x.holds(node, 0), BAD);
        }
        putDown(x, 1);
        due("down", x.holds(1, 2), DOWN);
        due("down, and no such object", x.holds(1, 99), DOWN);
        due("the last of all", full(2).holds(2, 59), 1);
    }

    private static void count() {
        PackExchange x = oneCommit(1);
        due("count", x.count(1), 3);
        due("count", x.count(0), 0);
        for (int node : WRONG_NODES) {
            due("no node", x.count(node), BAD);
        }
        putDown(x, 1);
        due("down", x.count(1), DOWN);
        due("all", full(2).count(2), 60);
    }

    private static void dueTalk(PackExchange x, int sent, int acknowledged, int rounds) {
        due("talk(0)", x.talk(0), sent);
        due("talk(1)", x.talk(1), acknowledged);
        due("talk(2)", x.talk(2), rounds);
    }

    private static void talk() {
        PackExchange x = chain(0, 3);
        for (int which : new int[] {-1, 3, Integer.MAX_VALUE, Integer.MIN_VALUE}) {
            due("no such number", x.talk(which), BAD);
        }
        due("fetch", x.fetch(1, 1), 4);
        dueTalk(x, 0, 0, 0);
        due("point", x.point(1, 0, 3), 1);
        for (int n = 4; n <= 8; n++) {
            due("commit", x.commit(1, 0, 1, -1), n);
        }
        due("blob", x.blob(0, 9), 9);
        due("tree", x.tree(0, 9, -1), 10);
        due("commit", x.commit(0, 0, 10, -1), 11);
        // Rounds 8 7 6 and 5 4 3: 3 is acknowledged, and 2 is never sent.
        due("fetch", x.fetch(1, 1), 3);
        dueTalk(x, 6, 1, 2);
        due("push does not touch it", x.push(1, 1), 0);
        due("nor a wrong fetch", x.fetch(1, 0), BAD);
        dueTalk(x, 6, 1, 2);
        due("arm", x.arm(2, 0), true);
        due("a fetch that ends early", x.fetch(2, 1), DOWN);
        dueTalk(x, 0, 0, 0);
        due("no want", x.fetch(1, 1), 0);
        dueTalk(x, 0, 0, 0);
        talkThatFindsNothing();
        talkForTwoWants();
        talkThatSkips();
        talkOfWhatNoReferenceReaches();
    }

    private static void talkThatFindsNothing() {
        PackExchange x = chain(1, 5);
        due("blob", x.blob(0, 7), 0);
        due("tree", x.tree(0, 0, -1), 1);
        due("tree", x.tree(0, 1, -1), 6);
        due("commit", x.commit(0, 0, 6, -1), 7);
        due("fetch: the shared objects are in the pack", x.fetch(1, 1), 4);
        dueTalk(x, 4, 0, 2);
        putDown(x, 0);
        due("the server is down", x.fetch(1, 1), DOWN);
        dueTalk(x, 4, 0, 2);
    }

    /** One want reaches what is acknowledged first; the talk goes on for the other. */
    private static void talkForTwoWants() {
        PackExchange x = oneCommit(0);
        due("tree", x.tree(0, 1, -1), 3);
        due("commit", x.commit(0, 1, 3, -1), 4);
        due("fetch", x.fetch(1, 3), 5);
        due("fetch", x.fetch(2, 3), 5);
        for (int client = 1; client <= 2; client++) {
            due("point", x.point(client, 0, 4), 1);
            due("commit", x.commit(client, 0, 1, -1), 5);
            due("commit", x.commit(client, 0, 1, -1), 6);
        }
        due("commit above 2", x.commit(0, 0, 1, -1), 7);
        due("commit above 4", x.commit(0, 1, 3, -1), 8);
        // Rounds 6 5 4 and 2.
        due("fetch", x.fetch(1, 3), 2);
        dueTalk(x, 4, 2, 2);
        due("fetch of 8 alone", x.fetch(2, 2), 1);
        dueTalk(x, 3, 1, 1);
    }

    /** What acknowledged commits reach is not sent: the talk ends though one want found nothing. */
    private static void talkThatSkips() {
        PackExchange x = chain(0, 6);
        due("blob", x.blob(0, 8), 7);
        due("tree", x.tree(0, 7, -1), 8);
        due("commit", x.commit(0, 1, 8, -1), 9);
        due("fetch", x.fetch(1, 3), 10);
        due("commit", x.commit(0, 0, 8, -1), 10);
        due("commit", x.commit(0, 2, 1, 10), 11);
        due("none", x.point(0, 1, -1), 1);
        due("none", x.point(0, 0, -1), 1);
        due("commit", x.commit(0, 3, 0, -1), BAD);
        due("tree", x.tree(0, 8, -1), 12);
        due("commit without parents", x.commit(0, 3, 12, -1), 13);
        // The wants 11 and 13: 9, 6 and 5 are acknowledged, what they reach is not sent any more.
        due("fetch", x.fetch(1, 12), 4);
        dueTalk(x, 3, 3, 1);
        due("13", x.packAt(0), 13);
        due("11", x.packAt(1), 11);
        due("10", x.packAt(2), 10);
        due("12", x.packAt(3), 12);
    }

    /** A commit that the client holds without a reference to it is no candidate. */
    private static void talkOfWhatNoReferenceReaches() {
        PackExchange x = oneCommit(0);
        due("fetch", x.fetch(1, 1), 3);
        due("commit", x.commit(0, 1, 1, 2), 3);
        due("commit", x.commit(0, 2, 1, -1), 2);
        due("point", x.point(0, 0, 3), 1);
        due("fetch", x.fetch(2, 1), 4);
        due("commit", x.commit(0, 0, 1, -1), 4);
        due("none of its own", x.reference(2, 0), NONE);
        due("fetch: the candidates are 3 and 2", x.fetch(2, 1), 1);
        dueTalk(x, 2, 2, 1);
        due("commit", x.commit(2, 3, 1, -1), 2);
        due("commit", x.commit(2, 3, 1, -1), 3);
        due("commit", x.commit(2, 3, 1, 2), 5);
        due("point", x.point(2, 3, -1), 1);
        due("commit", x.commit(0, 0, 1, -1), 6);
        due("fetch: 5 is no candidate", x.fetch(2, 1), 1);
        dueTalk(x, 3, 3, 1);
    }

    private static void packed() {
        PackExchange x = chain(0, 3);
        due("fetch", x.fetch(1, 1), 4);
        due("packed", x.packed(), 4);
        due("a wrong fetch", x.fetch(0, 1), BAD);
        due("a wrong push", x.push(1, 1), BAD);
        due("packed", x.packed(), 4);
        putDown(x, 2);
        due("a node that is down", x.fetch(2, 1), DOWN);
        due("a node that is down", x.push(2, 1), DOWN);
        due("packed", x.packed(), 4);
        due("recover", x.recover(2), 0);
        due("point", x.point(1, 1, 2), 1);
        due("push", x.push(1, 2), 1);
        due("packed", x.packed(), 0);
        due("arm", x.arm(2, 1), true);
        due("a node goes down", x.fetch(2, 2), DOWN);
        due("packed", x.packed(), 3);
        due("point", x.point(1, 0, 2), 1);
        due("refused", x.push(1, 1), 0);
        due("packed", x.packed(), 0);
    }

    private static void packAt() {
        PackExchange x = new PackExchange();
        due("blob", x.blob(1, 1), 0);
        due("tree", x.tree(1, 0, -1), 1);
        due("commit", x.commit(1, 0, 1, -1), 2);
        due("blob", x.blob(1, 2), 3);
        due("tree", x.tree(1, 3, 1), 4);
        due("commit", x.commit(1, 0, 4, -1), 5);
        due("push", x.push(1, 1), 1);
        int[] order = {5, 2, 4, 1, 3, 0};
        for (int place = 0; place < order.length; place++) {
            due("packAt", x.packAt(place), order[place]);
        }
        for (int place : new int[] {-1, 6, 59, 60, Integer.MAX_VALUE, Integer.MIN_VALUE}) {
            due("no such place", x.packAt(place), NONE);
        }
        due("collect", x.collect(2), 0);
        due("the pack stands", x.packAt(0), 5);
        due("an empty pack", x.push(1, 1), 1);
        due("no such place", x.packAt(0), NONE);
        PackExchange all = chain(1, 59);
        due("push of all", all.push(1, 1), 1);
        due("the last place", all.packAt(59), 0);
        due("no such place", all.packAt(60), NONE);
    }

    /** A pushed pack with one commit, a spine of trees, and these blobs, the last one first. */
    private static PackExchange blobs(int... contents) {
        PackExchange x = new PackExchange();
        for (int i = 0; i < contents.length; i++) {
            due("blob", x.blob(1, contents[i]), i);
        }
        int top = x.tree(1, 0, -1);
        for (int i = 1; i < contents.length; i++) {
            top = x.tree(1, i, top);
        }
        due("commit", x.commit(1, 0, top, -1), 2 * contents.length);
        due("push", x.push(1, 1), 1);
        return x;
    }

    /** The places of the bases, counted from the first blob's place. */
    private static void dueBases(PackExchange x, int... bases) {
        int from = 1 + bases.length;
        for (int i = 0; i < bases.length; i++) {
            due("base of blob " + i, x.base(from + i), bases[i] < 0 ? NONE : from + bases[i]);
        }
    }

    private static void base() {
        dueBases(blobs(0x1, 0x0), -1, 0);
        // Six digits differ: the delta would weigh 8. Five: 7.
        dueBases(blobs(0x111111, 0x0), -1, -1);
        dueBases(blobs(0x11111, 0x0), -1, 0);
        dueBases(blobs(0xf0000000, 0x0), -1, 0);
        // Among equals the highest place; else the least weight.
        dueBases(blobs(0x11, 0x10, 0x01), -1, 0, 1);
        dueBases(blobs(0x3, 0x2, 0x1), -1, 0, 1);
        dueBases(blobs(0x1, 0x111, 0x0), -1, 0, 0);
        // A chain ends at 2: the fourth blob takes the second, though the third is nearer.
        dueBases(blobs(0x4, 0x3, 0x2, 0x1), -1, 0, 1, 1);
        dueBases(blobs(0x1111, 0x111, 0x11, 0x1), -1, 0, 1, 1);
        // Only the three places before it; trees and commits are no bases.
        dueBases(blobs(0x1, 0x22222222, 0x33333333, 0x44444444, 0x0), -1, -1, -1, -1, -1);
        dueBases(blobs(0x1, 0x33333333, 0x44444444, 0x0), -1, -1, -1, 0);
        PackExchange x = blobs(0x0);
        for (int place : new int[] {-1, 0, 1, 2, 3, 60, Integer.MAX_VALUE, Integer.MIN_VALUE}) {
            due("no base", x.base(place), NONE);
        }
        x = blobs(0x1, 0x0);
        due("base", x.base(4), 3);
        due("an empty pack", x.push(1, 1), 1);
        due("no base", x.base(4), NONE);
    }

    private static void weight() {
        due("commit 2, tree 2, blob 8", blobs(5).weight(), 12);
        due("commit 2, trees 2 3, blobs 8 3", blobs(1, 0).weight(), 18);
        due("commit 2, trees 2 3, blobs 8 8", blobs(0x111111, 0).weight(), 23);
        due("commit 2, trees 2 3, blobs 8 7", blobs(0x11111, 0).weight(), 22);
        due("the highest digit", blobs(0x80000000, 0).weight(), 18);
        due("commit 2, trees 2 3 3 3, blobs 8 3 3 3", blobs(4, 3, 2, 1).weight(), 30);
        PackExchange x = chain(1, 3);
        due("point", x.point(1, 1, 2), 1);
        due("commit", x.commit(1, 1, 1, 3), 4);
        due("push", x.push(1, 2), 1);
        due("commits 4 3 2, tree 2, blob 8", x.weight(), 19);
        due("push", x.push(1, 2), 1);
        due("an empty pack", x.weight(), 0);
        due("tree", x.tree(1, 0, 0), 5);
        due("commit", x.commit(1, 1, 5, -1), 6);
        due("push", x.push(1, 2), 1);
        due("commit 3, tree 3", x.weight(), 6);
    }

    private static void verdict() {
        PackExchange x = chain(1, 3);
        due("point", x.point(1, 2, 3), 1);
        due("push", x.push(1, 5), 1);
        dueVerdicts(x, 1, 0, 1, 0);
        for (int r : new int[] {-1, 4, 8, Integer.MAX_VALUE, Integer.MIN_VALUE}) {
            due("no such reference", x.verdict(r), 0);
        }
        due("sideways", x.point(1, 2, 2), 1);
        due("stale", x.point(0, 0, -1), 1);
        due("point", x.point(1, 1, 2), 1);
        due("refused", x.push(1, 7), 0);
        dueVerdicts(x, 2, 1, 3, 0);
        due("a wrong push", x.push(1, 8), BAD);
        due("a fetch", x.fetch(2, 4), 4);
        dueVerdicts(x, 2, 1, 3, 0);
        due("stale before sideways", x.point(1, 0, 2), 1);
        due("refused", x.push(1, 1), 0);
        dueVerdicts(x, 2, 0, 0, 0);
        due("stale: the client knows of none", x.point(2, 2, 3), 1);
        due("none", x.point(2, 0, 3), 1);
        due("both none is the same", x.push(2, 1), 1);
        dueVerdicts(x, 1, 0, 0, 0);
        due("arm", x.arm(0, 0), true);
        due("the server goes down", x.push(1, 2), DOWN);
        dueVerdicts(x, 0, 1, 0, 0);
        due("the server is down", x.push(1, 1), DOWN);
        dueVerdicts(x, 0, 1, 0, 0);
    }

    private static void dueVerdicts(PackExchange x, int... want) {
        for (int r = 0; r < 4; r++) {
            due("verdict(" + r + ")", x.verdict(r), want[r]);
        }
    }
}
