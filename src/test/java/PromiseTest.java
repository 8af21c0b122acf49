/** For each sentence of the promises 1 to 20 a test: ordinary inputs, edges and wrong inputs. */
public final class PromiseTest extends Scenes {
    private static final int[] NO_PLACES = {-1, 60, 61, 64, LEAST, MOST};
    private static final int[] NO_OWN_REFERENCES = {-1, 4, 7, 8, LEAST, MOST};
    /** None of these is a number on a node that has made chain(node, 3): there are 0 .. 3. */
    private static final int[] NO_NUMBERS = {-2, -3, -4, 4, 59, 60, 63, 64, 65, 66, 128, LEAST, LEAST + 2, MOST};

    private PromiseTest() {
    }

    public static void main(String[] args) {
        promise1();
        promises2And3();
        promises4And5();
        promise6();
        promise7();
        promises8To10();
        promises11To14();
        promises15To16();
        promises17To20();
        end();
    }

    private static void promise1() {
        says("Promise 1", "All nodes are up, hold nothing", PromiseTest::allNodesAreUp);
        says("Promise 1", "are not armed", PromiseTest::notArmed);
        says("Promise 1", "all references are none; no objects", PromiseTest::noObjects);
        says("Promise 1", "the latest talk, pack and verdicts are empty.", PromiseTest::latestIsEmpty);
    }

    private static void promises2And3() {
        says("Promise 2", "A node writes the blob with this content. Answers its number.", PromiseTest::blob);
        says("Promise 2", "BAD when there is no such node", PromiseTest::blobOfNoNode);
        says("Promise 2", "DOWN", PromiseTest::blobDown);
        says("Promise 2", "FULL when there is no such object yet and there are 60.", PromiseTest::blobFull);
        says("Promise 3", "A node writes the tree with the entries first and second (second is -1: the first alone). "
                + "Answers its number.", PromiseTest::tree);
        says("Promise 3", "BAD when there is no such node; DOWN", PromiseTest::treeDown);
        says("Promise 3", "BAD when an entry is not a blob or tree that the node holds", PromiseTest::treeOfWrongEntries);
        says("Promise 3", "FULL as for blob.", PromiseTest::treeFull);
    }

    private static void promises4And5() {
        says("Promise 4", "whose parents are the node's reference (0 .. 3), if that is not none, and then other, "
                + "if that is not -1", PromiseTest::parents);
        says("Promise 4", "then a transaction sets the reference to it. Answers its number.", PromiseTest::commit);
        says("Promise 4", "BAD when there is no such node or reference; DOWN", PromiseTest::commitDown);
        says("Promise 4", "BAD when tree is not a tree that the node holds", PromiseTest::commitOfNoTree);
        says("Promise 4", "or other is neither -1 nor a commit that the node holds", PromiseTest::commitUponNoCommit);
        says("Promise 4", "or other is the commit that the reference is", PromiseTest::commitUponTheReference);
        says("Promise 4", "FULL as for blob.", PromiseTest::commitFull);
        says("Promise 5", "A transaction of a node sets one of its references 0 .. 3 to a commit, or to none when "
                + "commit is -1.", PromiseTest::point);
        says("Promise 5", "Answers 1; 0 when it was that already.", PromiseTest::pointWhereItIs);
        says("Promise 5", "BAD when there is no such node or reference; DOWN", PromiseTest::pointDown);
        says("Promise 5", "BAD when commit is neither -1 nor a commit that the node holds.", PromiseTest::pointAtNoCommit);
    }

    private static void promise6() {
        says("Promise 6", "The client fetches the references r of the server with bit r (value 2^r) in set.",
                PromiseTest::fetchedSet);
        says("Promise 6", "Answers the number of objects in the pack.", PromiseTest::fetchAnswers);
        says("Promise 6", "BAD when client is not 1 or 2 or set is not 1 .. 15", PromiseTest::fetchOfNoSet);
        says("Promise 6", "DOWN when the client or the server is down at the beginning", PromiseTest::fetchDown);
        says("Promise 6", "or the client goes down.", PromiseTest::fetchGoesDown);
    }

    private static void promise7() {
        says("Promise 7", "The client pushes its references r with bit r in set.", PromiseTest::pushedSet);
        says("Promise 7", "Answers 1 when it was carried out, 0 when it was refused for a verdict.",
                PromiseTest::pushAnswers);
        says("Promise 7", "BAD when client is not 1 or 2 or set is not 1 .. 15", PromiseTest::pushOfNoSet);
        says("Promise 7", "DOWN when the client or the server is down at the beginning", PromiseTest::pushDown);
        says("Promise 7", "BAD when one of the client's references in the set is none", PromiseTest::pushOfNone);
        says("Promise 7", "DOWN when the server or the client goes down.", PromiseTest::pushGoesDown);
    }

    private static void promises8To10() {
        says("Promise 8", "Arms a node, up or down, with n (0 .. 100)", PromiseTest::arm);
        says("Promise 8", "in place of what it was armed with", PromiseTest::armInPlace);
        says("Promise 8", "n = -1: it is not armed any more.", PromiseTest::disarm);
        says("Promise 8", "Answers true; false, changing nothing, when there is no such node or n is not -1 .. 100.",
                PromiseTest::armWrongly);
        says("Promise 9", "Answers the number of updates that were carried out again, 0 when the log was not sealed.",
                PromiseTest::recover);
        says("Promise 9", "BAD when there is no such node or it is up", PromiseTest::recoverNothing);
        says("Promise 9", "DOWN when it is still down.", PromiseTest::recoverDown);
        says("Promise 10", "A node gives up the objects that it holds and that are not reached from any of its "
                + "references 0 .. 7", PromiseTest::collect);
        says("Promise 10", "(no write is needed for that)", PromiseTest::collectWithoutPower);
        says("Promise 10", "Answers how many.", PromiseTest::collectAnswers);
        says("Promise 10", "BAD when there is no such node; DOWN.", PromiseTest::collectDown);
    }

    private static void promises11To14() {
        says("Promise 11", "Whether a node is up", PromiseTest::up);
        says("Promise 11", "false when there is no such node.", PromiseTest::upOfNoNode);
        says("Promise 12", "The commit that a reference (0 .. 7) of a node is, or NONE.", PromiseTest::reference);
        says("Promise 12", "BAD when there is no such node or reference; DOWN.", PromiseTest::noReference);
        says("Promise 13", "1 when a node holds the object with this number, 0 when not (or there is no such object).",
                PromiseTest::holds);
        says("Promise 13", "BAD when there is no such node; DOWN.", PromiseTest::holdsDown);
        says("Promise 14", "How many objects a node holds.", PromiseTest::count);
        says("Promise 14", "BAD when there is no such node; DOWN.", PromiseTest::countDown);
    }

    private static void promises15To16() {
        says("Promise 15", "Of the talk of the latest fetch (one that was not refused with BAD or with DOWN at its "
                + "beginning)", PromiseTest::latestTalk);
        says("Promise 15", "which 0 the number of haves sent, 1 of those acknowledged, 2 of rounds", PromiseTest::talk);
        says("Promise 15", "0 when there was no such fetch.", PromiseTest::noTalk);
        says("Promise 15", "BAD for another which.", PromiseTest::talkOfNothing);
        says("Promise 16", "that of the latest fetch or push that was not refused with BAD or with DOWN at its "
                + "beginning", PromiseTest::latestPack);
        says("Promise 16", "(also when a node went down in it)", PromiseTest::packOfACallThatEndsEarly);
        says("Promise 16", "0 when there was none.", PromiseTest::noPack);
    }

    private static void promises17To20() {
        says("Promise 17", "The object at a place of the latest pack", PromiseTest::packAt);
        says("Promise 17", "NONE when there is no such place.", PromiseTest::noPlace);
        says("Promise 18", "The place of the base against which the object at a place of the latest pack is a delta",
                PromiseTest::base);
        says("Promise 18", "NONE when it is whole, no blob, or there is no such place.", PromiseTest::noBase);
        says("Promise 19", "The sum of the weights in the latest pack.", PromiseTest::weight);
        says("Promise 20", "The verdict on reference r in the latest push that was not refused with BAD or with DOWN "
                + "at its beginning", PromiseTest::latestVerdicts);
        says("Promise 20", "1 GOOD, 2 STALE, 3 SIDEWAYS", PromiseTest::verdict);
        says("Promise 20", "0 when r was not pushed in it, r is not 0 .. 3, or there was no such push.",
                PromiseTest::noVerdict);
    }

    private static void allNodesAreUp() {
        PackExchange x = new PackExchange();
        for (int node = 0; node < 3; node++) {
            due("up", x.up(node), true);
            due("count", x.count(node), 0);
            due("holds", x.holds(node, 0), 0);
        }
        due("blob", x.blob(1, 7), 0);
        due("another new object holds nothing", new PackExchange().count(1), 0);
    }

    private static void notArmed() {
        for (int node = 0; node < 3; node++) {
            PackExchange x = oneCommit(node);
            for (int i = 0; i < 26; i++) {
                due("four writes", x.point(node, 0, i % 2 == 0 ? -1 : 2), 1);
            }
        }
    }

    private static void noObjects() {
        PackExchange x = new PackExchange();
        for (int node = 0; node < 3; node++) {
            dueReferences(x, node);
        }
        due("the first object", x.blob(2, -1), 0);
    }

    private static void latestIsEmpty() {
        PackExchange x = new PackExchange();
        dueTalk(x, 0, 0, 0);
        duePack(x);
        due("base", x.base(0), NONE);
        due("weight", x.weight(), 0);
        dueVerdicts(x, 0, 0, 0, 0);
    }

    private static void blob() {
        PackExchange x = new PackExchange();
        due("blob", x.blob(0, 5), 0);
        due("blob", x.blob(1, -5), 1);
        due("the same blob", x.blob(0, 5), 0);
        due("the same blob on another node", x.blob(2, 5), 0);
        dueHeld(x, 0, 0);
        dueHeld(x, 1, 1);
        dueHeld(x, 2, 0);
    }

    private static void blobOfNoNode() {
        PackExchange x = oneCommit(0);
        for (int node : NO_NODES) {
            due("a blob that there is", x.blob(node, 7), BAD);
            due("a new blob", x.blob(node, 8), BAD);
        }
        due("none was written", x.blob(0, 9), 3);
    }

    private static void blobDown() {
        PackExchange x = oneCommit(1);
        putDown(x, 1);
        due("a blob that it holds", x.blob(1, 7), DOWN);
        due("a new blob", x.blob(1, 8), DOWN);
        due("other nodes write", x.blob(2, 8), 3);
        due("arm", x.arm(2, 0), true);
        due("going down", x.blob(2, 9), DOWN);
        due("down", x.up(2), false);
    }

    private static void blobFull() {
        PackExchange x = full(1);
        due("a 61st object", x.blob(1, 0), FULL);
        due("a 61st object elsewhere", x.blob(0, 0), FULL);
        due("the first there is", x.blob(0, 7), 0);
        due("the last there is", x.blob(0, 1059), 59);
        due("arm", x.arm(2, 0), true);
        due("told without a write", x.blob(2, 0), FULL);
        due("up", x.up(2), true);
        due("one there is, without power", x.blob(2, 7), DOWN);
    }

    private static void tree() {
        PackExchange x = oneCommit(1);
        due("blob", x.blob(1, 8), 3);
        due("two entries", x.tree(1, 0, 3), 4);
        due("their order counts", x.tree(1, 3, 0), 5);
        due("the same entry twice", x.tree(1, 0, 0), 6);
        due("a tree as entry", x.tree(1, 4, 1), 7);
        due("the same", x.tree(1, 0, 3), 4);
        due("the first alone", x.tree(1, 0, -1), 1);
        due("the first alone", x.tree(1, 3, -1), 8);
        dueHeld(x, 1, 0, 1, 2, 3, 4, 5, 6, 7, 8);
    }

    private static void treeDown() {
        PackExchange x = oneCommit(2);
        for (int node : NO_NODES) {
            due("no node", x.tree(node, 0, -1), BAD);
        }
        due("arm", x.arm(2, 0), true);
        due("held already", x.tree(2, 0, -1), 1);
        due("going down", x.tree(2, 1, -1), DOWN);
        due("down", x.tree(2, 0, -1), DOWN);
        due("down, whatever the entries", x.tree(2, 99, 99), DOWN);
        due("recover", x.recover(2), 0);
        due("not written", x.count(2), 3);
    }

    private static void treeOfWrongEntries() {
        PackExchange x = chain(1, 3);
        for (int entry : NO_NUMBERS) {
            due("a wrong first entry", x.tree(1, entry, -1), BAD);
            due("a wrong first entry", x.tree(1, entry, 0), BAD);
            due("a wrong second entry", x.tree(1, 0, entry), BAD);
        }
        due("no first entry", x.tree(1, -1, -1), BAD);
        due("no first entry", x.tree(1, -1, 0), BAD);
        due("a commit", x.tree(1, 2, -1), BAD);
        due("a commit", x.tree(1, 0, 2), BAD);
        due("not held here", x.tree(2, 0, -1), BAD);
        due("blob", x.blob(2, 7), 0);
        due("blob", x.blob(1, 8), 4);
        due("not held here", x.tree(2, 0, 4), BAD);
        due("not held here", x.tree(2, 4, 0), BAD);
        due("not held here", x.tree(2, 0, 1), BAD);
        due("held here", x.tree(2, 0, -1), 1);
        due("given up", x.collect(2), 2);
        due("not held any more", x.tree(2, 0, -1), BAD);
    }

    private static void treeFull() {
        PackExchange x = full(0);
        due("a 61st object", x.tree(0, 1, 0), FULL);
        due("one there is", x.tree(0, 0, -1), 1);
        due("blob", x.blob(2, 7), 0);
        due("one there is, elsewhere", x.tree(2, 0, -1), 1);
        due("a 61st object, elsewhere", x.tree(2, 0, 0), FULL);
        due("the 60th object", nearlyFull().tree(1, 0, 0), 59);
    }

    /** As full, but with room for one more. */
    private static PackExchange nearlyFull() {
        PackExchange x = oneCommit(1);
        for (int n = 3; n < 59; n++) {
            due("blob", x.blob(1, n + 1000), n);
        }
        return x;
    }

    private static void parents() {
        PackExchange x = oneCommit(1);
        due("the reference", x.commit(1, 0, 1, -1), 3);
        due("other alone, for the reference is none", x.commit(1, 3, 1, 2), 3);
        due("no parent", x.commit(1, 2, 1, -1), 2);
        due("the reference, then other", x.commit(1, 0, 1, 2), 4);
        due("the other way", x.commit(1, 2, 1, 3), 5);
        due("other is reached from the reference", x.commit(1, 2, 1, 2), 6);
        due("weights tell the parents", x.push(1, 4), 1);
        duePack(x, 6, 5, 3, 2, 1, 0);
        due("two, two, one, none", x.weight(), 4 + 4 + 3 + 2 + 2 + 8);
    }

    private static void commit() {
        PackExchange x = oneCommit(1);
        for (int r = 1; r < 4; r++) {
            due("commit", x.commit(1, r, 1, 2), 3);
        }
        dueReferences(x, 1, 2, 3, 3, 3);
        dueReferences(x, 0);
        due("arm", x.arm(1, 5), true);
        due("an object and a transaction: five writes", x.commit(1, 3, 1, -1), 4);
        due("a sixth", x.commit(1, 3, 1, -1), DOWN);
        due("recover", x.recover(1), 0);
        dueReferences(x, 1, 2, 3, 3, 4);
    }

    private static void commitDown() {
        PackExchange x = oneCommit(1);
        for (int node : NO_NODES) {
            due("no node", x.commit(node, 0, 1, -1), BAD);
        }
        for (int r : NO_OWN_REFERENCES) {
            due("no reference", x.commit(1, r, 1, -1), BAD);
        }
        putDown(x, 1);
        due("down", x.commit(1, 0, 1, -1), DOWN);
        due("down, whatever the tree", x.commit(1, 0, 99, 99), DOWN);
        for (int r : NO_OWN_REFERENCES) {
            due("no reference, and down", x.commit(1, r, 1, -1), BAD);
        }
        due("recover", x.recover(1), 0);
        due("nothing was written", x.count(1), 3);
    }

    private static void commitOfNoTree() {
        PackExchange x = chain(1, 3);
        for (int tree : NO_NUMBERS) {
            due("no object", x.commit(1, 1, tree, -1), BAD);
        }
        due("-1", x.commit(1, 1, -1, -1), BAD);
        due("a blob", x.commit(1, 1, 0, -1), BAD);
        due("a commit", x.commit(1, 1, 2, -1), BAD);
        due("not held here", x.commit(0, 1, 1, -1), BAD);
        due("nothing changed", x.reference(1, 1), NONE);
        due("given up", x.collect(1), 0);
        due("tree", x.tree(1, 1, -1), 4);
        due("given up", x.collect(1), 1);
        due("not held any more", x.commit(1, 1, 4, -1), BAD);
    }

    private static void commitUponNoCommit() {
        PackExchange x = chain(1, 3);
        for (int other : NO_NUMBERS) {
            due("no object", x.commit(1, 1, 1, other), BAD);
        }
        due("a blob", x.commit(1, 1, 1, 0), BAD);
        due("a tree", x.commit(1, 1, 1, 1), BAD);
        due("blob", x.blob(2, 7), 0);
        due("tree", x.tree(2, 0, -1), 1);
        due("not held here", x.commit(2, 0, 1, 2), BAD);
        due("nothing changed", x.reference(1, 1), NONE);
        due("nothing changed", x.count(1), 4);
    }

    private static void commitUponTheReference() {
        PackExchange x = chain(1, 3);
        due("the commit that the reference is", x.commit(1, 0, 1, 3), BAD);
        due("nothing changed", x.reference(1, 0), 3);
        due("that of another reference", x.point(1, 3, 2), 1);
        due("is fine", x.commit(1, 0, 1, 2), 4);
        due("none, and -1", x.commit(1, 2, 1, -1), 2);
    }

    private static void commitFull() {
        PackExchange x = full(2);
        due("a 61st object", x.commit(2, 0, 1, -1), FULL);
        due("the reference stays", x.reference(2, 0), 2);
        due("one there is", x.commit(2, 1, 1, -1), 2);
        x = nearlyFull();
        due("the 60th object", x.commit(1, 0, 1, -1), 59);
        due("the reference is set", x.reference(1, 0), 59);
        due("a 61st object", x.commit(1, 0, 1, -1), FULL);
    }

    private static void point() {
        PackExchange x = chain(1, 3);
        for (int r = 1; r < 4; r++) {
            due("point", x.point(1, r, 2), 1);
        }
        dueReferences(x, 1, 3, 2, 2, 2);
        due("another", x.point(1, 3, 3), 1);
        due("none", x.point(1, 0, -1), 1);
        dueReferences(x, 1, NONE, 2, 2, 3);
        due("arm", x.arm(1, 4), true);
        due("four writes", x.point(1, 0, 3), 1);
        due("a fifth", x.point(1, 0, 2), DOWN);
        due("recover", x.recover(1), 0);
        due("reference", x.reference(1, 0), 3);
    }

    private static void pointWhereItIs() {
        PackExchange x = chain(1, 3);
        due("a commit", x.point(1, 0, 3), 0);
        due("none", x.point(1, 3, -1), 0);
        due("to a commit", x.point(1, 3, 3), 1);
        due("already", x.point(1, 3, 3), 0);
        due("to none", x.point(1, 3, -1), 1);
        due("already", x.point(1, 3, -1), 0);
        due("arm", x.arm(1, 0), true);
        due("no write is needed", x.point(1, 0, 3), 0);
        due("up", x.up(1), true);
    }

    private static void pointDown() {
        PackExchange x = oneCommit(1);
        for (int node : NO_NODES) {
            due("no node", x.point(node, 0, -1), BAD);
        }
        for (int r : NO_OWN_REFERENCES) {
            due("no reference", x.point(1, r, 2), BAD);
            due("no reference", x.point(1, r, -1), BAD);
        }
        putDown(x, 1);
        due("down", x.point(1, 0, -1), DOWN);
        due("down, where it is that already", x.point(1, 0, 2), DOWN);
        due("down, whatever the commit", x.point(1, 0, 99), DOWN);
        due("no reference, and down", x.point(1, 4, 2), BAD);
    }

    private static void pointAtNoCommit() {
        PackExchange x = chain(1, 3);
        for (int commit : NO_NUMBERS) {
            due("no object", x.point(1, 0, commit), BAD);
        }
        due("a blob", x.point(1, 0, 0), BAD);
        due("a tree", x.point(1, 0, 1), BAD);
        due("not held here", x.point(0, 0, 2), BAD);
        due("back", x.point(1, 0, 2), 1);
        due("given up", x.collect(1), 1);
        due("not held any more", x.point(1, 0, 3), BAD);
        due("nothing changed", x.reference(1, 0), 2);
    }

    /** A node's references 0 .. 3 are the commits 5 .. 8 without parents, of the trees 1 .. 4. */
    private static PackExchange fourLines(int node) {
        PackExchange x = new PackExchange();
        due("blob", x.blob(node, 7), 0);
        for (int n = 1; n < 5; n++) {
            due("tree", x.tree(node, n - 1, -1), n);
        }
        for (int r = 0; r < 4; r++) {
            due("commit", x.commit(node, r, r + 1, -1), 5 + r);
        }
        return x;
    }

    private static void fetchedSet() {
        for (int set = 1; set < 16; set++) {
            PackExchange x = fourLines(0);
            due("fetch", x.fetch(2, set) > 0, true);
            for (int r = 0; r < 4; r++) {
                boolean fetched = (set >> r & 1) == 1;
                due("reference " + (4 + r) + " of set " + set, x.reference(2, 4 + r), fetched ? 5 + r : NONE);
                due("own reference", x.reference(2, r), NONE);
                due("holds", x.holds(2, 5 + r), fetched ? 1 : 0);
            }
        }
    }

    private static void fetchAnswers() {
        PackExchange x = fourLines(0);
        due("commit, tree and blob", x.fetch(1, 1), 3);
        due("nothing", x.fetch(1, 1), 0);
        due("a commit and three trees", x.fetch(1, 8), 4);
        due("two commits", x.fetch(1, 15), 2);
        due("also what is held", x.fetch(2, 15), 9);
        due("no reference is set", new PackExchange().fetch(1, 15), 0);
        due("all that there can be", chain(0, 59).fetch(1, 1), 60);
        x = oneCommit(0);
        due("blob", x.blob(1, 7), 0);
        due("tree", x.tree(1, 0, -1), 1);
        due("arm", x.arm(1, 5), true);
        due("three in the pack, one written", x.fetch(1, 1), 3);
        due("five writes were enough, and needed", x.blob(1, 1), DOWN);
    }

    private static void fetchOfNoSet() {
        PackExchange x = oneCommit(0);
        for (int client : NO_CLIENTS) {
            due("no client", x.fetch(client, 1), BAD);
        }
        for (int set : NO_SETS) {
            due("no set", x.fetch(1, set), BAD);
            due("no set", x.fetch(2, set), BAD);
        }
        due("the smallest set", x.fetch(1, 1), 3);
        due("the largest set", x.fetch(2, 15), 3);
    }

    private static void fetchDown() {
        PackExchange x = oneCommit(0);
        putDown(x, 1);
        due("the client is down", x.fetch(1, 1), DOWN);
        due("the other client is not needed", x.fetch(2, 1), 3);
        due("recover", x.recover(1), 0);
        putDown(x, 0);
        due("the server is down", x.fetch(1, 1), DOWN);
        due("the server is down", x.fetch(2, 2), DOWN);
        due("nothing is written", x.count(1), 0);
    }

    /** Three objects, two notes, the seal, two updates, the emptying; the server writes nothing. */
    private static void fetchGoesDown() {
        for (int n = 0; n <= 9; n++) {
            PackExchange x = oneCommit(0);
            due("point", x.point(0, 3, 2), 1);
            due("arm", x.arm(1, n), true);
            due("arm", x.arm(0, 0), true);
            due("fetch after " + n + " writes", x.fetch(1, 9), n == 9 ? 3 : DOWN);
            due("up", x.up(1), n == 9);
            due("the server is up", x.up(0), true);
            due("recover", x.recover(1), n == 9 ? BAD : n >= 6 ? 2 : 0);
            due("count", x.count(1), Math.min(n, 3));
            int set = n >= 6 ? 2 : NONE;
            dueReferences(x, 1, NONE, NONE, NONE, NONE, set, NONE, NONE, set);
        }
    }

    private static void pushedSet() {
        for (int set = 1; set < 16; set++) {
            PackExchange x = fourLines(2);
            due("push", x.push(2, set), 1);
            for (int r = 0; r < 4; r++) {
                boolean pushed = (set >> r & 1) == 1;
                due("reference " + r + " of set " + set, x.reference(0, r), pushed ? 5 + r : NONE);
                due("reference " + (4 + r) + " of set " + set, x.reference(2, 4 + r), pushed ? 5 + r : NONE);
                due("holds", x.holds(0, 5 + r), pushed ? 1 : 0);
                due("verdict", x.verdict(r), pushed ? 1 : 0);
            }
        }
    }

    private static void pushAnswers() {
        PackExchange x = chain(1, 3);
        due("carried out", x.push(1, 1), 1);
        due("carried out, although nothing is to do", x.push(1, 1), 1);
        due("back", x.point(1, 0, 2), 1);
        due("sideways", x.push(1, 1), 0);
        due("another", x.point(1, 1, 2), 1);
        due("one of two is refused", x.push(1, 3), 0);
        dueReferences(x, 0, 3);
        due("the other alone", x.push(1, 2), 1);
        dueReferences(x, 0, 3, 2);
        due("none", x.point(0, 1, -1), 1);
        due("stale", x.push(1, 2), 0);
        dueReferences(x, 1, 2, 2, NONE, NONE, 3, 2);
    }

    private static void pushOfNoSet() {
        PackExchange x = oneCommit(1);
        for (int client : NO_CLIENTS) {
            due("no client", x.push(client, 1), BAD);
        }
        for (int set : NO_SETS) {
            due("no set", x.push(1, set), BAD);
        }
        due("the smallest set", x.push(1, 1), 1);
        for (int r = 1; r < 4; r++) {
            due("point", x.point(1, r, 2), 1);
        }
        due("the largest set", x.push(1, 15), 1);
        dueReferences(x, 0, 2, 2, 2, 2);
    }

    private static void pushDown() {
        PackExchange x = oneCommit(1);
        putDown(x, 2);
        due("the client is down", x.push(2, 1), DOWN);
        due("the other client is not needed", x.push(1, 1), 1);
        putDown(x, 0);
        due("the server is down", x.push(1, 1), DOWN);
        due("the server is down, and a reference is none", x.push(1, 2), DOWN);
    }

    private static void pushOfNone() {
        PackExchange x = oneCommit(1);
        for (int set = 1; set < 16; set++) {
            due("push of set " + set, x.push(1, set), set == 1 ? 1 : BAD);
        }
        due("point", x.point(1, 3, 2), 1);
        for (int set = 1; set < 16; set++) {
            due("push of set " + set, x.push(1, set), (set & 6) == 0 ? 1 : BAD);
        }
        due("none again", x.point(1, 0, -1), 1);
        due("what the server has is not pushed away", x.push(1, 1), BAD);
        due("reference", x.reference(0, 0), 2);
    }

    private static void pushGoesDown() {
        for (int n = 0; n <= 7; n++) {
            PackExchange x = oneCommit(1);
            due("arm", x.arm(0, n), true);
            due("the server has " + n + " writes", x.push(1, 1), n == 7 ? 1 : DOWN);
            due("the server", x.up(0), n == 7);
            due("the client", x.up(1), true);
            dueReferences(x, 1, 2, NONE, NONE, NONE, n == 7 ? 2 : NONE);
        }
        for (int n = 0; n <= 4; n++) {
            PackExchange x = oneCommit(1);
            due("arm", x.arm(1, n), true);
            due("the client has " + n + " writes", x.push(1, 1), n == 4 ? 1 : DOWN);
            due("the server", x.up(0), true);
            due("the client", x.up(1), n == 4);
            dueReferences(x, 0, 2);
        }
        PackExchange x = oneCommit(1);
        due("arm", x.arm(0, 6), true);
        due("the log is sealed, the client knows nothing", x.push(1, 1), DOWN);
        due("recover", x.recover(0), 1);
        due("so the client is stale", x.push(1, 1), 0);
        dueVerdicts(x, 2, 0, 0, 0);
    }

    private static void arm() {
        for (int node = 0; node < 3; node++) {
            PackExchange x = new PackExchange();
            due("n = 0", x.arm(node, 0), true);
            due("no write", x.blob(node, 1), DOWN);
            due("down, n = 1", x.arm(node, 1), true);
            due("recover", x.recover(node), 0);
            due("one write", x.blob(node, 1), 0);
            due("no other", x.blob(node, 2), DOWN);
            due("down, n = 100", x.arm(node, 100), true);
            due("recover", x.recover(node), 0);
            due("up, n = 100", x.arm(node, 100), true);
            due("up, n = 99", x.arm(node, 99), true);
            due("the other nodes are not armed", x.blob((node + 1) % 3, 3), 1);
        }
        dueHundredWrites();
    }

    private static void dueHundredWrites() {
        PackExchange x = oneCommit(1);
        due("the highest", x.arm(1, 100), true);
        for (int i = 0; i < 3; i++) {
            due("one write", x.blob(1, 100 + i), 3 + i);
        }
        for (int i = 0; i < 24; i++) {
            due("four writes", x.point(1, 0, i % 2 == 0 ? -1 : 2), 1);
        }
        due("the 100th write", x.blob(1, 200), 6);
        due("the 101st write", x.blob(1, 201), DOWN);
    }

    private static void armInPlace() {
        PackExchange x = new PackExchange();
        due("arm", x.arm(0, 0), true);
        due("more", x.arm(0, 2), true);
        due("first", x.blob(0, 1), 0);
        due("fewer than were left", x.arm(0, 0), true);
        due("none", x.blob(0, 2), DOWN);
        due("arm", x.arm(0, 5), true);
        due("and again, while down", x.arm(0, 1), true);
        due("recover", x.recover(0), 0);
        due("one", x.blob(0, 2), 1);
        due("not five", x.blob(0, 3), DOWN);
    }

    private static void disarm() {
        PackExchange x = new PackExchange();
        due("arm", x.arm(0, 0), true);
        due("disarm", x.arm(0, -1), true);
        for (int i = 0; i < 50; i++) {
            due("blob", x.blob(0, i), i);
        }
        due("not armed, disarmed all the same", x.arm(0, -1), true);
        due("arm", x.arm(0, 0), true);
        due("down", x.blob(0, 99), DOWN);
        due("arm", x.arm(0, 0), true);
        due("disarm while down", x.arm(0, -1), true);
        due("still down", x.up(0), false);
        due("recover", x.recover(0), 0);
        due("blob", x.blob(0, 99), 50);
    }

    private static void armWrongly() {
        int[] wrong = {-2, -3, 101, 102, 255, 256, LEAST, LEAST + 1, MOST};
        for (int node : NO_NODES) {
            for (int n : new int[] {-1, 0, 100, 101}) {
                due("no node", new PackExchange().arm(node, n), false);
            }
            dueNoChange("no node", Scenes::busy, 0, x -> x.arm(node, 0) ? 1 : 0);
        }
        for (int n : wrong) {
            dueNoChange("n = " + n, Scenes::busy, 0, x -> x.arm(1, n) ? 1 : 0);
            dueNoChange("n = " + n + ", down", () -> busyAndDown(1), 0, x -> x.arm(1, n) ? 1 : 0);
        }
    }

    private static void recover() {
        for (int m = 1; m <= 4; m++) {
            for (int writes = 0; writes < 2 * m + 2; writes++) {
                PackExchange x = cutOff(m, writes);
                due(m + " updates, " + writes + " writes", x.recover(1), writes > m ? m : 0);
                due("up", x.up(1), true);
            }
        }
        PackExchange x = oneCommit(1);
        due("arm", x.arm(0, 6), true);
        due("the server too", x.push(1, 1), DOWN);
        due("recover", x.recover(0), 1);
        dueReferences(x, 0, 2);
    }

    private static void recoverNothing() {
        PackExchange x = oneCommit(1);
        for (int node : NO_NODES) {
            due("no node", x.recover(node), BAD);
        }
        for (int node = 0; node < 3; node++) {
            due("up", x.recover(node), BAD);
        }
        due("armed is not down", x.arm(1, 0), true);
        due("up", x.recover(1), BAD);
        putDown(x, 1);
        due("recover", x.recover(1), 0);
        due("up again", x.recover(1), BAD);
    }

    private static void recoverDown() {
        PackExchange x = cutOff(2, 3);
        for (int n = 0; n < 3; n++) {
            due("arm", x.arm(1, n), true);
            due("still down", x.recover(1), DOWN);
            due("up", x.up(1), false);
        }
        due("at last", x.recover(1), 2);
    }

    /** Each of the eight references keeps what it reaches, and no other node's do. */
    private static void collect() {
        PackExchange x = fourLines(0);
        due("fetch", x.fetch(1, 15), 9);
        for (int r = 0; r < 4; r++) {
            due("all is reached from 4 .. 7", x.collect(1), 0);
            due("point", x.point(1, r, 5 + r), 1);
            due("all is reached from 0 .. 7", x.collect(1), 0);
        }
        for (int r = 0; r < 3; r++) {
            due("none", x.point(0, r, -1), 1);
            due("the commit; its trees are reached from the last", x.collect(0), 1);
        }
        dueHeld(x, 0, 0, 1, 2, 3, 4, 8);
        due("none", x.point(0, 3, -1), 1);
        due("all", x.collect(0), 6);
        dueHeld(x, 0);
        due("another node's are kept", x.count(1), 9);
        due("it comes back with its number", x.blob(0, 7), 0);
    }

    private static void collectWithoutPower() {
        PackExchange x = oneCommit(1);
        due("blob", x.blob(1, 8), 3);
        due("arm", x.arm(1, 0), true);
        due("collect", x.collect(1), 1);
        due("up", x.up(1), true);
        due("still armed", x.blob(1, 8), DOWN);
    }

    private static void collectAnswers() {
        PackExchange x = new PackExchange();
        due("nothing is held", x.collect(0), 0);
        x = full(1);
        due("all but three", x.collect(1), 57);
        due("again", x.collect(1), 0);
        due("none", x.point(1, 0, -1), 1);
        due("the rest", x.collect(1), 3);
        due("count", x.count(1), 0);
        x = chain(2, 59);
        due("none", x.point(2, 0, -1), 1);
        due("all sixty", x.collect(2), 60);
    }

    private static void collectDown() {
        PackExchange x = oneCommit(0);
        for (int node : NO_NODES) {
            due("no node", x.collect(node), BAD);
        }
        due("blob", x.blob(0, 8), 3);
        putDown(x, 0);
        due("down", x.collect(0), DOWN);
        due("recover", x.recover(0), 0);
        due("nothing was given up", x.count(0), 4);
    }

    private static void up() {
        for (int down = 0; down < 3; down++) {
            PackExchange x = new PackExchange();
            due("armed", x.arm(down, 0), true);
            due("is up", x.up(down), true);
            putDown(x, down);
            for (int node = 0; node < 3; node++) {
                due("up", x.up(node), node != down);
            }
            due("recover", x.recover(down), 0);
            due("up again", x.up(down), true);
        }
    }

    private static void upOfNoNode() {
        for (int node : NO_NODES) {
            due("up", new PackExchange().up(node), false);
        }
    }

    private static void reference() {
        PackExchange x = fourLines(1);
        due("push", x.push(1, 15), 1);
        dueReferences(x, 1, 5, 6, 7, 8, 5, 6, 7, 8);
        dueReferences(x, 0, 5, 6, 7, 8);
        dueReferences(x, 2);
        due("none", x.point(1, 2, -1), 1);
        dueReferences(x, 1, 5, 6, NONE, 8, 5, 6, 7, 8);
    }

    private static void noReference() {
        PackExchange x = oneCommit(1);
        int[] wrong = {-1, 8, 9, 16, LEAST, MOST};
        for (int node : NO_NODES) {
            due("no node", x.reference(node, 0), BAD);
        }
        for (int r : wrong) {
            due("no reference", x.reference(1, r), BAD);
        }
        putDown(x, 1);
        due("down", x.reference(1, 0), DOWN);
        due("down, none", x.reference(1, 7), DOWN);
        for (int r : wrong) {
            due("no reference, and down", x.reference(1, r), BAD);
        }
    }

    private static void holds() {
        PackExchange x = chain(1, 3);
        for (int object = 0; object < 4; object++) {
            due("holds", x.holds(1, object), 1);
            due("another node", x.holds(0, object), 0);
        }
        due("no such object", x.holds(1, -1), 0);
        for (int object : NO_NUMBERS) {
            due("no such object", x.holds(1, object), 0);
        }
        x = full(2);
        due("the first of all", x.holds(2, 0), 1);
        due("the last of all", x.holds(2, 59), 1);
        for (int object : new int[] {-1, -64, 60, 61, 63, 64, 123, LEAST, MOST}) {
            due("no such object", x.holds(2, object), 0);
        }
        due("given up", x.collect(2), 57);
        due("not held any more", x.holds(2, 59), 0);
    }

    private static void holdsDown() {
        PackExchange x = oneCommit(1);
        for (int node : NO_NODES) {
            due("no node", x.holds(node, 0), BAD);
            due("no node, no object", x.holds(node, 60), BAD);
        }
        putDown(x, 1);
        due("down", x.holds(1, 2), DOWN);
        due("down, and no such object", x.holds(1, 99), DOWN);
    }

    private static void count() {
        PackExchange x = full(1);
        due("none", x.count(0), 0);
        due("all", x.count(1), 60);
        due("full", x.blob(1, 0), FULL);
        due("all", x.count(1), 60);
        due("the same again", x.blob(1, 7), 0);
        due("all", x.count(1), 60);
        due("blob", x.blob(0, 7), 0);
        due("one", x.count(0), 1);
    }

    private static void countDown() {
        PackExchange x = oneCommit(1);
        for (int node : NO_NODES) {
            due("no node", x.count(node), BAD);
        }
        putDown(x, 1);
        due("down", x.count(1), DOWN);
        due("the others", x.count(2), 0);
    }

    /** A fetch by client 1 has sent 3, of which 2 were acknowledged, in one round. */
    private static PackExchange talked() {
        PackExchange x = busy();
        for (int node = 0; node < 3; node++) {
            due("disarm", x.arm(node, -1), true);
        }
        dueTalk(x, 3, 2, 1);
        return x;
    }

    private static void latestTalk() {
        PackExchange x = talked();
        due("no client", x.fetch(0, 1), BAD);
        due("no set", x.fetch(1, 16), BAD);
        due("a push", x.push(1, 1), 1);
        dueTalk(x, 3, 2, 1);
        putDown(x, 2);
        due("the client is down", x.fetch(2, 1), DOWN);
        dueTalk(x, 3, 2, 1);
        due("recover", x.recover(2), 0);
        putDown(x, 0);
        due("the server is down", x.fetch(2, 1), DOWN);
        dueTalk(x, 3, 2, 1);
        due("recover", x.recover(0), 0);
        due("arm", x.arm(2, 0), true);
        due("a fetch that ends early", x.fetch(2, 1), DOWN);
        dueTalk(x, 0, 0, 0);
        x = talked();
        due("no want", x.fetch(1, 2), 0);
        dueTalk(x, 0, 0, 0);
    }

    /** One want reaches what is acknowledged first; the talk goes on for the other. */
    private static void talk() {
        PackExchange x = oneCommit(0);
        due("tree", x.tree(0, 1, -1), 3);
        due("commit", x.commit(0, 1, 3, -1), 4);
        for (int client = 1; client <= 2; client++) {
            due("fetch", x.fetch(client, 3), 5);
            due("point", x.point(client, 0, 4), 1);
            due("commit", x.commit(client, 0, 1, -1), 5);
            due("commit", x.commit(client, 0, 1, -1), 6);
        }
        due("commit above 2", x.commit(0, 0, 1, -1), 7);
        due("commit above 4", x.commit(0, 1, 3, -1), 8);
        due("6 5 4, and 2", x.fetch(1, 3), 2);
        dueTalk(x, 4, 2, 2);
        due("8 alone: 6 5 4", x.fetch(2, 2), 1);
        dueTalk(x, 3, 1, 1);
    }

    private static void noTalk() {
        PackExchange x = oneCommit(1);
        dueTalk(x, 0, 0, 0);
        due("push", x.push(1, 1), 1);
        due("refused", x.fetch(1, 0), BAD);
        dueTalk(x, 0, 0, 0);
    }

    private static void talkOfNothing() {
        PackExchange x = talked();
        for (int which : new int[] {-1, 3, 4, LEAST, MOST}) {
            due("talk(" + which + ")", x.talk(which), BAD);
            due("talk(" + which + ") of a new object", new PackExchange().talk(which), BAD);
        }
    }

    private static void latestPack() {
        PackExchange x = chain(0, 3);
        due("fetch", x.fetch(1, 1), 4);
        due("no client", x.fetch(0, 1), BAD);
        due("a reference that is none", x.push(1, 1), BAD);
        putDown(x, 2);
        due("a node that is down", x.fetch(2, 1), DOWN);
        due("a node that is down", x.push(2, 1), DOWN);
        due("that of the first fetch", x.packed(), 4);
        due("recover", x.recover(2), 0);
        due("point", x.point(1, 1, 2), 1);
        due("push", x.push(1, 2), 1);
        due("an empty one", x.packed(), 0);
        due("fetch", x.fetch(2, 2), 3);
        due("packed", x.packed(), 3);
        due("point", x.point(1, 0, 2), 1);
        due("refused for a verdict", x.push(1, 1), 0);
        due("an empty one", x.packed(), 0);
    }

    private static void packOfACallThatEndsEarly() {
        PackExchange x = oneCommit(1);
        due("arm", x.arm(0, 0), true);
        due("push", x.push(1, 1), DOWN);
        duePack(x, 2, 1, 0);
        due("recover", x.recover(0), 0);
        due("point", x.point(1, 1, 2), 1);
        due("commit", x.commit(1, 1, 1, -1), 3);
        due("arm", x.arm(1, 0), true);
        due("the client goes down", x.push(1, 2), DOWN);
        duePack(x, 3, 2, 1, 0);
        due("arm", x.arm(2, 1), true);
        due("fetch", x.fetch(2, 2), DOWN);
        duePack(x, 3, 2, 1, 0);
        due("nothing is left to write but references", x.recover(2), 0);
        due("fetch", x.fetch(2, 2), 4);
        due("arm", x.arm(2, 0), true);
        due("point", x.point(0, 0, 2), 1);
        due("an empty one", x.fetch(2, 1), DOWN);
        duePack(x);
    }

    private static void noPack() {
        PackExchange x = oneCommit(1);
        due("no fetch or push", x.packed(), 0);
        due("refused", x.fetch(1, 0), BAD);
        due("refused", x.push(1, 2), BAD);
        due("packed", x.packed(), 0);
    }

    private static void packAt() {
        PackExchange x = busy();
        duePack(x, 10, 9, 8, 7);
        due("disarm", x.arm(0, -1), true);
        due("none", x.point(0, 1, -1), 1);
        due("given up", x.collect(0), 4);
        duePack(x, 10, 9, 8, 7);
        due("disarm", x.arm(1, -1), true);
        due("push", x.push(1, 1), 1);
        duePack(x, 6);
    }

    private static void noPlace() {
        PackExchange x = busy();
        for (int place : NO_PLACES) {
            due("packAt(" + place + ")", x.packAt(place), NONE);
            due("of a new object", new PackExchange().packAt(place), NONE);
        }
        due("behind the last", x.packAt(4), NONE);
        due("of an empty pack", new PackExchange().packAt(0), NONE);
        x = chain(1, 59);
        due("push", x.push(1, 1), 1);
        due("the last", x.packAt(59), 0);
        for (int place : NO_PLACES) {
            due("packAt(" + place + ") of 60", x.packAt(place), NONE);
        }
        due("push", x.push(1, 1), 1);
        due("the old pack is gone", x.packAt(0), NONE);
    }

    private static void base() {
        due("the last of four", busy().base(3), 2);
        dueBases(blobs(0x1, 0x0), -1, 0);
        dueBases(blobs(0xF0000000, 0x0), -1, 0);
        dueBases(blobs(0x1, 0x111, 0x0), -1, 0, 0);
        dueBases(blobs(0x4, 0x3, 0x2, 0x1), -1, 0, 1, 1);
    }

    private static void noBase() {
        PackExchange x = busy();
        due("a commit", x.base(0), NONE);
        due("a tree", x.base(1), NONE);
        due("whole", x.base(2), NONE);
        due("behind the last", x.base(4), NONE);
        for (int place : NO_PLACES) {
            due("base(" + place + ")", x.base(place), NONE);
            due("of a new object", new PackExchange().base(place), NONE);
        }
        x = blobs(0x1, 0x0);
        due("base", x.base(4), 3);
        due("push", x.push(1, 1), 1);
        due("the old pack is gone", x.base(4), NONE);
    }

    private static void weight() {
        due("none", new PackExchange().weight(), 0);
        due("commit 3, tree 3, blobs 8 and 3", busy().weight(), 17);
        due("commit 2, tree 2, blob 8", blobs(5).weight(), 12);
        due("commit 2, trees 2 3 3 3, blobs 8 3 3 3", blobs(4, 3, 2, 1).weight(), 30);
        PackExchange x = chain(1, 59);
        due("push", x.push(1, 1), 1);
        due("sixty objects", x.weight(), 2 + 57 * 3 + 2 + 8);
        due("fetch", x.fetch(2, 1), 60);
        due("the same by a fetch", x.weight(), 183);
        due("push", x.push(1, 1), 1);
        due("an empty pack", x.weight(), 0);
    }

    private static void latestVerdicts() {
        PackExchange x = chain(1, 3);
        due("push", x.push(1, 1), 1);
        due("sideways", x.point(1, 0, 2), 1);
        due("refused for a verdict", x.push(1, 1), 0);
        dueVerdicts(x, 3, 0, 0, 0);
        due("a reference that is none", x.push(1, 8), BAD);
        due("no set", x.push(1, 16), BAD);
        due("a fetch", x.fetch(2, 1), 4);
        putDown(x, 2);
        due("down", x.push(2, 1), DOWN);
        dueVerdicts(x, 3, 0, 0, 0);
        due("another", x.point(1, 1, 2), 1);
        due("arm", x.arm(0, 0), true);
        due("the server goes down", x.push(1, 2), DOWN);
        dueVerdicts(x, 0, 1, 0, 0);
        due("the server is down", x.push(1, 1), DOWN);
        dueVerdicts(x, 0, 1, 0, 0);
        due("recover", x.recover(0), 0);
        due("arm", x.arm(1, 0), true);
        due("point", x.push(1, 2), DOWN);
        dueVerdicts(x, 0, 1, 0, 0);
    }

    private static void verdict() {
        PackExchange x = chain(1, 3);
        for (int r = 1; r < 4; r++) {
            due("point", x.point(1, r, 3), 1);
        }
        due("push", x.push(1, 15), 1);
        dueVerdicts(x, 1, 1, 1, 1);
        due("sideways", x.point(1, 1, 2), 1);
        due("stale", x.point(0, 2, 2), 1);
        due("stale before sideways", x.point(1, 3, 2), 1);
        due("stale before sideways", x.point(0, 3, 2), 1);
        due("refused", x.push(1, 15), 0);
        dueVerdicts(x, 1, 3, 2, 2);
    }

    private static void noVerdict() {
        PackExchange x = chain(1, 3);
        dueVerdicts(x, 0, 0, 0, 0);
        due("point", x.point(1, 3, 3), 1);
        due("refused", x.push(1, 7), BAD);
        dueVerdicts(x, 0, 0, 0, 0);
        due("push", x.push(1, 9), 1);
        dueVerdicts(x, 1, 0, 0, 1);
        for (int r : NO_OWN_REFERENCES) {
            due("verdict(" + r + ")", x.verdict(r), 0);
        }
        due("push", x.push(1, 8), 1);
        dueVerdicts(x, 0, 0, 0, 1);
    }
}
