/** One test for each sentence of the section 'Terms' (and of 'What it is') that names an edge. */
public final class TermsTest extends Scenes {
    private TermsTest() {
    }

    public static void main(String[] args) {
        nodesAndObjects();
        writes();
        transactions();
        recovery();
        fetches();
        pushes();
        packs();
        refusals();
        end();
    }

    private static void nodesAndObjects() {
        says("What it is", "An object is used for at most 512 calls after it has been made",
                TermsTest::theLastCall);
        says("NODES", "0 is the SERVER, 1 and 2 are CLIENTS.", TermsTest::threeNodes);
        says("NODES", "Each holds a set of objects and has REFERENCES, each of which is none or a commit "
                + "that the node holds: 0 .. 3, its own; and 4 .. 7", TermsTest::eightReferences);
        says("NODES", "(on the server they are always none)", TermsTest::noneOnTheServer);
        says("OBJECTS", "OBJECTS are numbered 0 .. 59 in the order in which they are first written anywhere.",
                TermsTest::sixtyNumbers);
        says("OBJECTS", "A BLOB has a content (an int)", TermsTest::everyContent);
        says("OBJECTS", "a TREE has one or two entries, a first one and perhaps a second one, each a blob or a tree",
                TermsTest::oneOrTwoEntries);
        says("OBJECTS", "a COMMIT has a tree and none, one or two parents (commits), in an order.",
                TermsTest::upToTwoParents);
        says("OBJECTS", "Objects of the same kind with the same content (the same entries; the same tree and "
                + "parents, in the same order) are the same object with the same number, on whatever node they "
                + "are made.", TermsTest::theSameObject);
        says("OBJECTS", "in the order in which they are first written anywhere.", TermsTest::numbersAreKept);
        says("OBJECTS", "are the same object with the same number, on whatever node they are made.",
                TermsTest::madeAgain);
        says("OBJECTS", "An object REACHES itself, and what its entries, its tree and its parents reach.",
                TermsTest::reach);
    }

    private static void writes() {
        says("WRITES", "then n more writes are done, and with the next one after them, which is not done, "
                + "the node goes DOWN at once", TermsTest::armedWithN);
        says("WRITES", "the call in which that happens ends there and answers DOWN, what was written stays",
                TermsTest::whatWasWrittenStays);
        says("WRITES", "and the node is armed no more.", TermsTest::armedNoMore);
        says("WRITES", "Writing an object that the node does not hold is one write; from then on it holds it",
                TermsTest::oneWrite);
        says("WRITES", "an object that it holds already is not written.", TermsTest::noWrite);
    }

    private static void transactions() {
        says("TRANSACTION", "m writes note the updates in its log; one write seals the log; m writes carry the "
                + "updates out in the references; one write empties the log.", TermsTest::transactionWrites);
        says("TRANSACTION", "to new values, each a commit or none", TermsTest::transactionToNone);
        says("TRANSACTION", "References that have their new value already are no part of a transaction",
                TermsTest::noPartOfATransaction);
        says("TRANSACTION", "when none is left there is no transaction, and nothing is written.",
                TermsTest::noTransaction);
    }

    private static void recovery() {
        says("RECOVERY", "when its log is sealed, all updates in it are carried out (again, one write each) and "
                + "one write empties the log", TermsTest::recoveryOfASealedLog);
        says("RECOVERY", "when the log is not sealed but not empty, one write empties it.",
                TermsTest::recoveryOfAnOpenLog);
        says("RECOVERY", "Then the node is up.", TermsTest::recoveryOfAnEmptyLog);
        says("RECOVERY", "When it is armed and its power ends in the middle of that, it is still down, with its "
                + "log as it was; what was carried out stays carried out.", TermsTest::recoveryCutOff);
        says("WRITES and RECOVERY", "and the node is armed no more.", TermsTest::armedNoMoreAfterRecovery);
    }

    private static void fetches() {
        says("FETCH", "WANTS: the commits that these references are, but not those that the client holds.",
                TermsTest::wants);
        says("FETCH", "the CANDIDATES are the commits that are reached from any of the client's references (0 .. 7).",
                TermsTest::candidates);
        says("FETCH", "In each ROUND the client sends up to three HAVES", TermsTest::upToThreeHaves);
        says("FETCH", "those candidates with the highest numbers that were not sent before",
                TermsTest::theHighestFirst);
        says("FETCH", "and are not reached from a commit that was acknowledged in an earlier round.",
                TermsTest::notWhatIsAcknowledged);
        says("FETCH", "The server ACKNOWLEDGES those of them that it holds.", TermsTest::acknowledged);
        says("FETCH", "The talk ends after a round when each want reaches some acknowledged commit",
                TermsTest::talkEndsAfterARound);
        says("FETCH", "or before a round for which there is no candidate left to send "
                + "(this is not counted as a round).", TermsTest::talkEndsBeforeARound);
        says("FETCH", "THE PACK: all objects that are reached from a want and are not reached from any "
                + "acknowledged commit.", TermsTest::fetchedPack);
        says("FETCH", "The client writes those of them that it does not hold, the lowest number first",
                TermsTest::clientWritesTheLowestFirst);
        says("FETCH", "then a transaction of the client sets, for each reference r that was fetched and is not "
                + "none on the server, its reference 4 + r to the commit that r is on the server.",
                TermsTest::fetchSetsReferences);
        says("FETCH", "Without a want the talk has no rounds and the pack is empty.", TermsTest::noWant);
    }

    private static void pushes() {
        says("PUSH", "the new value is the client's reference r, and the old value its reference 4 + r.",
                TermsTest::oldAndNew);
        says("PUSH", "The VERDICT on r is STALE when the server's reference r is not the old value "
                + "(both none is the same)", TermsTest::stale);
        says("PUSH", "otherwise SIDEWAYS when the old value is a commit that the new value does not reach",
                TermsTest::sideways);
        says("PUSH", "otherwise GOOD.", TermsTest::good);
        says("PUSH", "When a verdict is not GOOD, the push is refused: nothing changes but the verdicts and the "
                + "pack, which is empty then.", TermsTest::refusedPush);
        says("PUSH", "Otherwise THE PACK consists of all objects that are reached from a new value and are not "
                + "reached from any commit that is one of the server's references 0 .. 3 and that the client holds.",
                TermsTest::pushedPack);
        says("PUSH", "The server writes those of them that it does not hold, the lowest number first",
                TermsTest::serverWritesTheLowestFirst);
        says("PUSH", "then a transaction of the server sets the references to the new values",
                TermsTest::pushSetsTheServer);
        says("PUSH", "then a transaction of the client sets its references 4 + r to the new values.",
                TermsTest::pushSetsTheClient);
    }

    private static void packs() {
        says("PLACES", "PLACES IN A PACK, from 0: the commits, then the trees, then the blobs, within each kind "
                + "the highest number first.", TermsTest::places);
        says("PLACES", "A blob is in it WHOLE, with weight 8, or as a DELTA against a BASE, one of the (up to "
                + "three) blobs at the places directly before it.", TermsTest::threeBases);
        says("PLACES", "The weight of a delta is 2 and the number of those of the eight hexadecimal digits of the "
                + "two contents (as 32 bits) that differ.", TermsTest::deltaWeights);
        says("PLACES", "A blob's CHAIN is 0 when it is whole, otherwise one more than its base's.",
                TermsTest::chains);
        says("PLACES", "a blob becomes a delta against that base of a chain below 2 for which the weight is least",
                TermsTest::leastWeight);
        says("PLACES", "among several of these the one at the highest place", TermsTest::highestPlace);
        says("PLACES", "but whole when there is none", TermsTest::noBaseLeft);
        says("PLACES", "or that weight would not be below 8.", TermsTest::notBelowEight);
        says("PLACES", "A commit or tree has weight 1 and 1 more for each of its entries, its tree and its parents.",
                TermsTest::otherWeights);
    }

    private static void refusals() {
        says("Refusals", "The refusals of a call are tested in the order in which they are said there",
                TermsTest::orderOfRefusals);
        says("Refusals", "(DOWN: a node that the call needs is down at its beginning).", TermsTest::nodesNotNeeded);
        says("Refusals", "A call that is refused so (BAD", TermsTest::badChangesNothing);
        says("Refusals", "DOWN at its beginning", TermsTest::downChangesNothing);
        says("Refusals", "FULL) changes nothing.", TermsTest::fullChangesNothing);
        says("Refusals", "Of a node that is down nothing can be read.", TermsTest::nothingIsRead);
        says("The constants", "`BAD = -1`: An argument is not as said.",
                () -> due("BAD", PackExchange.BAD, BAD));
        says("The constants", "`DOWN = -2`: A node that the call needs is down, or goes down in it.",
                () -> due("DOWN", PackExchange.DOWN, DOWN));
        says("The constants", "`FULL = -3`: There are 60 objects.",
                () -> due("FULL", PackExchange.FULL, FULL));
        says("The constants", "`NONE = -4`: There is none.",
                () -> due("NONE", PackExchange.NONE, NONE));
    }

    /** 60 calls fill the object, 447 move a reference; the last five use what all of them made. */
    private static void theLastCall() {
        PackExchange x = new PackExchange();
        due("blob", x.blob(1, 7), 0);
        due("tree", x.tree(1, 0, -1), 1);
        for (int n = 2; n < 60; n++) {
            due("commit", x.commit(1, 0, 1, -1), n);
        }
        for (int call = 61; call <= 507; call++) {
            due("point, call " + call, x.point(1, 1, call % 2 == 0 ? -1 : 2 + call % 58), 1);
        }
        due("push, call 508", x.push(1, 3), 1);
        due("fetch, call 509", x.fetch(2, 1), 60);
        due("reference, call 510", x.reference(0, 0), 59);
        due("weight, call 511", x.weight(), 2 + 57 * 3 + 2 + 8);
        due("blob, call 512", x.blob(1, 8), FULL);
    }

    private static void threeNodes() {
        PackExchange x = oneCommit(0);
        due("the server does not fetch", x.fetch(0, 1), BAD);
        due("the server does not push", x.push(0, 1), BAD);
        due("client 1 fetches", x.fetch(1, 1), 3);
        due("client 2 fetches", x.fetch(2, 1), 3);
        due("a node below 0", x.up(-1), false);
        due("a node above 2", x.up(3), false);
    }

    private static void eightReferences() {
        PackExchange x = new PackExchange();
        for (int node = 0; node < 3; node++) {
            makeOneCommit(x, node);
            due("point", x.point(node, 3, 2), 1);
            dueReferences(x, node, 2, NONE, NONE, 2);
            due("no own reference", x.point(node, 4, 2), BAD);
            due("no own reference", x.point(node, -1, 2), BAD);
            due("no reference", x.reference(node, -1), BAD);
            due("the last reference", x.reference(node, 7), NONE);
            due("no reference", x.reference(node, 8), BAD);
        }
        due("one node's reference is moved", x.point(2, 0, -1), 1);
        due("another's is not", x.reference(1, 0), 2);
        due("what a reference is stays held", x.collect(2), 0);
        due("what a reference is stays held", x.holds(2, x.reference(2, 3)), 1);
    }

    private static void noneOnTheServer() {
        PackExchange x = chain(0, 3);
        due("fetch", x.fetch(1, 15), 4);
        due("point", x.point(1, 3, 3), 1);
        due("commit", x.commit(1, 3, 1, -1), 4);
        due("push", x.push(1, 8), 1);
        due("arm", x.arm(0, 2), true);
        due("point", x.point(0, 2, 2), DOWN);
        due("recover", x.recover(0), 1);
        dueReferences(x, 0, 3, NONE, 2, 4);
    }

    private static void sixtyNumbers() {
        PackExchange x = new PackExchange();
        due("the first", x.blob(2, 1), 0);
        due("the next, elsewhere", x.blob(0, 2), 1);
        due("it has a number already", x.blob(1, 1), 0);
        due("a refused call takes no number", x.tree(1, 1, -1), BAD);
        due("arm", x.arm(1, 0), true);
        due("a write that is not done takes no number", x.blob(1, 3), DOWN);
        due("the next", x.tree(0, 1, -1), 2);
        due("given up", x.collect(0), 2);
        due("the next, although 1 and 2 are held nowhere", x.blob(0, 4), 3);
        due("first written as 1", x.blob(2, 2), 1);
        for (int n = 4; n < 60; n++) {
            due("blob", x.blob(n % 2 * 2, n + 100), n);
        }
        due("60 is no number", x.blob(0, 3), FULL);
        due("given up", x.collect(0), 29);
        due("given up", x.collect(2), 30);
        due("the numbers stay given out", x.blob(0, 3), FULL);
        due("the last number", x.blob(0, 159), 59);
    }

    private static void everyContent() {
        int[] contents = {0, -1, -2, -3, -4, 1, LEAST, LEAST + 1, MOST, MOST - 1, 59, 60, 61, 0x55555555, 0xAAAAAAAA};
        PackExchange x = new PackExchange();
        for (int i = 0; i < contents.length; i++) {
            due("blob(0, " + contents[i] + ")", x.blob(0, contents[i]), i);
        }
        for (int i = 0; i < contents.length; i++) {
            due("blob(1, " + contents[i] + ")", x.blob(1, contents[i]), i);
        }
        due("count", x.count(1), contents.length);
    }

    private static void oneOrTwoEntries() {
        PackExchange x = new PackExchange();
        due("blob", x.blob(1, 7), 0);
        due("one entry", x.tree(1, 0, -1), 1);
        due("two entries", x.tree(1, 0, 1), 2);
        due("the same one twice", x.tree(1, 2, 2), 3);
        due("no first entry", x.tree(1, -1, -1), BAD);
        due("a second entry alone", x.tree(1, -1, 0), BAD);
        for (int n = 4; n < 60; n++) {
            due("a tree upon trees", x.tree(1, n - 1, n - 2), n);
        }
        due("as deep as can be", x.tree(1, 58, 57), 59);
    }

    private static void upToTwoParents() {
        PackExchange x = oneCommit(1);
        due("no parent", x.commit(1, 1, 1, -1), 2);
        due("one parent, the reference", x.commit(1, 1, 1, -1), 3);
        due("one parent, the other", x.commit(1, 2, 1, 2), 3);
        due("two parents", x.commit(1, 1, 1, 2), 4);
        due("the same two in the other order", x.commit(1, 0, 1, 3), 5);
        due("push", x.push(1, 1), 1);
        duePack(x, 5, 3, 2, 1, 0);
        due("two parents, one parent, none; one entry; a blob", x.weight(), 4 + 3 + 2 + 2 + 8);
    }

    private static void theSameObject() {
        PackExchange x = new PackExchange();
        due("blob", x.blob(0, 1), 0);
        due("blob", x.blob(0, 0), 1);
        due("a tree of 0 is not the blob with content 0", x.tree(0, 0, -1), 2);
        due("a tree of 1", x.tree(0, 1, -1), 3);
        due("one entry is not the same twice", x.tree(0, 0, 0), 4);
        due("entries", x.tree(0, 0, 1), 5);
        due("the other order", x.tree(0, 1, 0), 6);
        due("a tree of 2", x.tree(0, 2, -1), 7);
        due("a commit of 2 is not the tree of 2", x.commit(0, 0, 2, -1), 8);
        due("another tree", x.commit(0, 1, 3, -1), 9);
        due("parents", x.commit(0, 0, 2, 9), 10);
        due("the other order", x.commit(0, 1, 2, 8), 11);
        due("the same on another node", x.blob(2, 0), 1);
        due("the same on another node", x.blob(2, 1), 0);
        due("the same on another node", x.tree(2, 0, 1), 5);
        due("the same on another node", x.tree(2, 0, -1), 2);
        due("the same on another node", x.commit(2, 3, 2, -1), 8);
        due("the same again", x.commit(2, 0, 2, -1), 8);
        due("no new one", x.blob(1, 5), 12);
    }

    /** Client 1 made the commits 2 .. last; now no node holds any object. */
    private static PackExchange allGivenUp(int last) {
        PackExchange x = chain(1, last);
        due("none", x.point(1, 0, -1), 1);
        due("all are given up", x.collect(1), last + 1);
        for (int node = 0; node < 3; node++) {
            dueHeld(x, node);
        }
        return x;
    }

    /** An object that all nodes gave up was first written when it was: no other gets its number. */
    private static void numbersAreKept() {
        PackExchange x = allGivenUp(3);
        due("the next number", x.blob(1, 8), 4);
        due("the next number", x.blob(0, 9), 5);
        due("tree", x.tree(0, 5, -1), 6);
        due("commit", x.commit(0, 0, 6, -1), 7);

        x = allGivenUp(59);
        for (int node = 0; node < 3; node++) {
            due("all numbers are given out", x.blob(node, 8), FULL);
            due("one that there was", x.blob(node, 7), 0);
            due("no tree that there was", x.tree(node, 0, 0), FULL);
            due("one that there was", x.tree(node, 0, -1), 1);
        }
    }

    private static void madeAgain() {
        PackExchange x = allGivenUp(59);
        due("it is not held", x.tree(2, 0, -1), BAD);
        makeOneCommit(x, 2);
        for (int n = 3; n < 60; n++) {
            due("commit", x.commit(2, 0, 1, -1), n);
        }
        due("no such commit before", x.commit(2, 0, 1, -1), FULL);
        dueReferences(x, 2, 59);

        x = allGivenUp(3);
        due("arm", x.arm(0, 1), true);
        due("making it again is a write", x.blob(0, 7), 0);
        due("and so is this", x.tree(0, 0, -1), DOWN);
        due("recover", x.recover(0), 0);
        due("tree", x.tree(0, 0, -1), 1);
        due("commit", x.commit(0, 2, 1, -1), 2);
        due("fetch", x.fetch(1, 4), 3);
        duePack(x, 2, 1, 0);
        due("on another node, above the same parent", x.commit(1, 0, 1, 2), 3);
    }

    private static void reach() {
        PackExchange x = new PackExchange();
        for (int n = 0; n < 4; n++) {
            due("blob", x.blob(1, n), n);
        }
        due("tree", x.tree(1, 0, -1), 4);
        due("a second entry", x.tree(1, 1, 2), 5);
        due("a second entry that is a tree", x.tree(1, 3, 5), 6);
        due("commit", x.commit(1, 0, 4, -1), 7);
        due("commit", x.commit(1, 1, 6, -1), 8);
        due("a second parent", x.commit(1, 0, 4, 8), 9);
        due("none", x.point(1, 1, -1), 1);
        due("all is reached from 9", x.collect(1), 0);
        due("push", x.push(1, 1), 1);
        due("a commit reaches itself", x.push(1, 1), 1);
        dueVerdicts(x, 1, 0, 0, 0);
        due("and so leaves itself out", x.packed(), 0);
        due("point", x.point(1, 0, 7), 1);
        due("a parent does not reach its child", x.push(1, 1), 0);
        due("none", x.point(1, 0, -1), 1);
        due("the server's is none too", x.point(0, 0, -1), 1);
        due("nothing is reached from none", x.collect(0), 10);
        due("reference 4 reaches all", x.collect(1), 0);
    }

    private static void armedWithN() {
        for (int n : new int[] {0, 1, 2, 3, 57}) {
            PackExchange x = new PackExchange();
            due("arm", x.arm(0, n), true);
            for (int i = 0; i < n; i++) {
                due("write " + (i + 1) + " of " + n, x.blob(0, i), i);
            }
            due("up after " + n, x.up(0), true);
            due("the next one", x.blob(0, n), DOWN);
            due("down", x.up(0), false);
            due("recover", x.recover(0), 0);
            due("it was not done", x.count(0), n);
        }
        PackExchange x = oneCommit(2);
        due("arm", x.arm(2, 100), true);
        for (int i = 0; i < 25; i++) {
            due("four writes", x.point(2, 0, i % 2 == 0 ? -1 : 2), 1);
        }
        due("the 101st", x.blob(2, 1), DOWN);
    }

    /** A commit writes its object, notes, seals, updates, empties. */
    private static void whatWasWrittenStays() {
        for (int n = 0; n <= 5; n++) {
            PackExchange x = oneCommit(1);
            due("arm", x.arm(1, n), true);
            due("commit after " + n + " writes", x.commit(1, 0, 1, -1), n == 5 ? 3 : DOWN);
            due("recover", x.recover(1), n == 5 ? BAD : n >= 3 ? 1 : 0);
            due("the object", x.holds(1, 3), n >= 1 ? 1 : 0);
            due("the reference", x.reference(1, 0), n >= 3 ? 3 : 2);
            due("the number is given out", x.blob(0, 99), n >= 1 ? 4 : 3);
        }
    }

    private static void armedNoMore() {
        PackExchange x = new PackExchange();
        due("arm", x.arm(1, 0), true);
        due("blob", x.blob(1, 7), DOWN);
        dueManyWrites(x, 1);
        for (int n = 0; n < 5; n++) {
            x = oneCommit(1);
            due("arm", x.arm(1, n), true);
            due("commit", x.commit(1, 0, 1, -1), DOWN);
            dueManyWrites(x, 1);
        }
        for (int n = 0; n < 7; n++) {
            x = oneCommit(0);
            due("arm", x.arm(1, n), true);
            due("fetch", x.fetch(1, 1), DOWN);
            dueManyWrites(x, 1);
        }
        for (int n = 0; n < 7; n++) {
            x = oneCommit(1);
            due("arm", x.arm(0, n), true);
            due("push", x.push(1, 1), DOWN);
            dueManyWrites(x, 0);
        }
        for (int n = 0; n < 4; n++) {
            x = oneCommit(1);
            due("arm", x.arm(1, n), true);
            due("push", x.push(1, 1), DOWN);
            dueManyWrites(x, 1);
        }
    }

    /** A node that is down comes up with one recovery, and has the power for more than 100 writes. */
    private static void dueManyWrites(PackExchange x, int node) {
        due("down", x.up(node), false);
        due("recover", x.recover(node) >= 0, true);
        due("blob", x.blob(node, 7), 0);
        due("tree", x.tree(node, 0, -1), 1);
        int commit = x.commit(node, 3, 1, -1);
        for (int i = 0; i < 26; i++) {
            due("four writes", x.point(node, 3, i % 2 == 0 ? -1 : commit), 1);
        }
        due("up", x.up(node), true);
    }

    private static void oneWrite() {
        PackExchange x = new PackExchange();
        due("arm", x.arm(1, 2), true);
        due("blob", x.blob(1, 7), 0);
        due("held from then on", x.holds(1, 0), 1);
        due("tree", x.tree(1, 0, -1), 1);
        due("held from then on", x.holds(1, 1), 1);
        due("the power is used up", x.blob(1, 8), DOWN);
        due("recover", x.recover(1), 0);
        due("given up", x.collect(1), 2);
        due("arm", x.arm(1, 0), true);
        due("one write, although it has its number", x.blob(1, 7), DOWN);
    }

    private static void noWrite() {
        PackExchange x = oneCommit(1);
        due("point", x.point(1, 0, -1), 1);
        due("arm", x.arm(1, 0), true);
        due("blob", x.blob(1, 7), 0);
        due("tree", x.tree(1, 0, -1), 1);
        due("up", x.up(1), true);
        due("arm", x.arm(1, 4), true);
        due("the commit is held; the transaction is four writes", x.commit(1, 0, 1, -1), 2);
        due("a fifth", x.blob(1, 8), DOWN);
        due("held elsewhere is not held here", x.arm(0, 0), true);
        due("blob", x.blob(0, 7), DOWN);
    }

    private static void transactionWrites() {
        for (int m = 1; m <= 4; m++) {
            int all = 2 * m + 2;
            for (int n = 0; n <= all; n++) {
                PackExchange x = heldByBoth();
                due("arm", x.arm(1, n), true);
                due(m + " updates, " + n + " writes", x.fetch(1, (1 << m) - 1), n == all ? 0 : DOWN);
                due("up", x.up(1), n == all);
                due("recover", x.recover(1), n == all ? BAD : n > m ? m : 0);
                for (int r = 4; r < 8; r++) {
                    due("reference(1, " + r + ")", x.reference(1, r), n > m && r < 4 + m ? 2 : NONE);
                }
                due("the next write", x.blob(1, 8), n == all ? DOWN : 3);
            }
        }
    }

    private static void transactionToNone() {
        for (int n = 0; n <= 4; n++) {
            PackExchange x = oneCommit(1);
            due("arm", x.arm(1, n), true);
            due("to none, " + n + " writes", x.point(1, 0, -1), n == 4 ? 1 : DOWN);
            due("recover", x.recover(1), n == 4 ? BAD : n > 1 ? 1 : 0);
            due("reference", x.reference(1, 0), n > 1 ? NONE : 2);
        }
    }

    private static void noPartOfATransaction() {
        PackExchange x = heldByBoth();
        due("fetch", x.fetch(1, 5), 0);
        due("arm", x.arm(1, 6), true);
        due("two of four are left: six writes", x.fetch(1, 15), 0);
        dueReferences(x, 1, 2, NONE, NONE, NONE, 2, 2, 2, 2);
        due("a seventh", x.blob(1, 8), DOWN);

        x = heldByBoth();
        due("fetch", x.fetch(1, 7), 0);
        due("arm", x.arm(1, 2), true);
        due("one of four is left: two writes seal it", x.fetch(1, 15), DOWN);
        due("the log has that one alone", x.recover(1), 1);

        x = oneCommit(1);
        due("push", x.push(1, 1), 1);
        due("point", x.point(1, 1, 2), 1);
        due("arm", x.arm(0, 4), true);
        due("arm", x.arm(1, 4), true);
        due("one of two is left, here and there", x.push(1, 3), 1);
        due("a fifth of the server", x.blob(0, 8), DOWN);
        due("a fifth of the client", x.blob(1, 8), DOWN);
    }

    private static void noTransaction() {
        PackExchange x = heldByBoth();
        due("fetch", x.fetch(1, 15), 0);
        due("arm", x.arm(0, 0), true);
        due("arm", x.arm(1, 0), true);
        due("fetch what is there", x.fetch(1, 15), 0);
        due("push what is there", x.push(1, 1), 1);
        due("point where it is", x.point(1, 0, 2), 0);
        due("point to none where it is none", x.point(1, 1, -1), 0);
        due("point where it is", x.point(0, 3, 2), 0);
        due("up", x.up(0), true);
        due("up", x.up(1), true);
        due("still armed", x.blob(0, 8), DOWN);
        due("still armed", x.blob(1, 8), DOWN);
        due("no log", x.recover(0), 0);
        due("no log", x.recover(1), 0);

        x = oneCommit(1);
        due("arm", x.arm(1, 0), true);
        due("references that are none are not fetched", x.fetch(1, 15), 0);
        due("up", x.up(1), true);
    }

    /** However many updates were carried out before, all of them are carried out again. */
    private static void recoveryOfASealedLog() {
        for (int m = 1; m <= 4; m++) {
            for (int carriedOut = 0; carriedOut <= m; carriedOut++) {
                for (int n = 0; n <= m + 1; n++) {
                    PackExchange x = cutOff(m, m + 1 + carriedOut);
                    due("arm", x.arm(1, n), true);
                    due(m + " updates, recovery with " + n + " writes", x.recover(1), n > m ? m : DOWN);
                    due("up", x.up(1), n > m);
                }
            }
            PackExchange x = cutOff(m, m + 1);
            due("arm", x.arm(1, m + 1), true);
            due("recover", x.recover(1), m);
            due("the log is empty: nothing to recover", x.recover(1), BAD);
            due("no power is left", x.blob(1, 8), DOWN);
            due("the log is empty", x.recover(1), 0);
            for (int r = 4; r < 8; r++) {
                due("reference(1, " + r + ")", x.reference(1, r), r < 4 + m ? 2 : NONE);
            }
        }
    }

    private static void recoveryOfAnOpenLog() {
        for (int m = 1; m <= 4; m++) {
            for (int noted = 1; noted <= m; noted++) {
                PackExchange x = cutOff(m, noted);
                due("arm", x.arm(1, 0), true);
                due("no power for the one write", x.recover(1), DOWN);
                due("still down", x.up(1), false);
                due("arm", x.arm(1, 1), true);
                due("one write", x.recover(1), 0);
                dueReferences(x, 1, 2);
                due("no power is left", x.point(1, 3, 2), DOWN);
                due("the log is empty", x.arm(1, 0), true);
                due("recover", x.recover(1), 0);
                due("disarm", x.arm(1, -1), true);
                due("what was noted is forgotten", x.point(1, 3, 2), 1);
                dueReferences(x, 1, 2, NONE, NONE, 2);
            }
        }
    }

    private static void recoveryOfAnEmptyLog() {
        PackExchange x = cutOff(4, 0);
        due("arm", x.arm(1, 0), true);
        due("nothing is written", x.recover(1), 0);
        due("up", x.up(1), true);
        due("it can be read", x.count(1), 3);
        due("and is still armed", x.blob(1, 8), DOWN);
        due("recover", x.recover(1), 0);
        due("it can write", x.blob(1, 8), 3);
    }

    private static void recoveryCutOff() {
        PackExchange x = cutOff(3, 4);
        for (int n = 0; n < 4; n++) {
            due("arm", x.arm(1, n), true);
            due("power for " + n + " writes", x.recover(1), DOWN);
            due("still down", x.up(1), false);
            due("nothing is read", x.reference(1, 4), DOWN);
        }
        due("arm", x.arm(1, 0), true);
        due("less again", x.recover(1), DOWN);
        due("arm", x.arm(1, 4), true);
        due("all three, again", x.recover(1), 3);
        dueReferences(x, 1, 2, NONE, NONE, NONE, 2, 2, 2);

        x = cutOff(3, 3);
        due("arm", x.arm(1, 0), true);
        due("the open log", x.recover(1), DOWN);
        due("arm", x.arm(1, 0), true);
        due("the open log", x.recover(1), DOWN);
        due("it was never sealed", x.recover(1), 0);
        dueReferences(x, 1, 2);
    }

    /** The write that is not done disarms the node, in a recovery as in any other call. */
    private static void armedNoMoreAfterRecovery() {
        for (int n = 0; n <= 4; n++) {
            PackExchange x = cutOff(4, 5);
            due("arm", x.arm(1, n), true);
            due("recover", x.recover(1), DOWN);
            dueManyWrites(x, 1);
        }
        PackExchange x = cutOff(4, 2);
        due("arm", x.arm(1, 0), true);
        due("recover", x.recover(1), DOWN);
        dueManyWrites(x, 1);
    }

    private static void wants() {
        PackExchange x = chain(0, 3);
        due("point", x.point(0, 1, 3), 1);
        due("point", x.point(0, 3, 2), 1);
        due("none is no want", x.fetch(1, 4), 0);
        due("one commit at two references, and its parent", x.fetch(1, 15), 4);
        makeOneCommit(x, 2);
        due("point", x.point(2, 0, -1), 1);
        due("held, although no reference is it", x.fetch(2, 8), 0);
        due("yet the reference is set", x.reference(2, 7), 2);
        due("the other is a want", x.fetch(2, 9), 1);
        duePack(x, 3);
    }

    /** Client 1 has 3 above 2 by its reference 3 alone, client 2 knows of them by reference 7 alone. */
    private static void candidates() {
        PackExchange x = chain(1, 3);
        due("point", x.point(1, 3, 3), 1);
        due("none", x.point(1, 0, -1), 1);
        due("push", x.push(1, 8), 1);
        due("fetch", x.fetch(2, 8), 4);
        due("tree", x.tree(0, 1, -1), 4);
        due("commit", x.commit(0, 0, 4, -1), 5);
        due("fetch", x.fetch(2, 1), 2);
        dueTalk(x, 2, 2, 1);
        due("commit", x.commit(1, 3, 1, 2), 6);
        due("none", x.point(1, 3, -1), 1);
        due("6 is held, and reached from no reference", x.fetch(1, 1), 2);
        dueTalk(x, 2, 2, 1);

        x = oneCommit(1);
        due("none", x.point(1, 0, -1), 1);
        due("blob", x.blob(0, 9), 3);
        due("tree", x.tree(0, 3, -1), 4);
        due("commit", x.commit(0, 0, 4, -1), 5);
        due("no reference, no candidate", x.fetch(1, 1), 3);
        dueTalk(x, 0, 0, 0);
    }

    /** A client with so many commits that the server does not hold fetches one that has no parents. */
    private static PackExchange strangers(int commits) {
        PackExchange x = new PackExchange();
        int next = 0;
        if (commits > 0) {
            x = chain(1, commits + 1);
            next = commits + 2;
        }
        due("blob", x.blob(0, 9), next);
        due("tree", x.tree(0, next, -1), next + 1);
        due("commit", x.commit(0, 0, next + 1, -1), next + 2);
        due("fetch", x.fetch(1, 1), 3);
        return x;
    }

    private static void upToThreeHaves() {
        for (int commits : new int[] {1, 2, 3, 4, 5, 6, 7, 54, 55}) {
            dueTalk(strangers(commits), commits, 0, (commits + 2) / 3);
        }
    }

    /** The client has 2 .. last; of these the server holds 2 .. known, and has a new commit above. */
    private static PackExchange partlyKnown(int last, int known) {
        PackExchange x = chain(1, last);
        due("point", x.point(1, 1, known), 1);
        due("push", x.push(1, 2), 1);
        due("tree", x.tree(0, 1, -1), last + 1);
        due("commit", x.commit(0, 1, last + 1, -1), last + 2);
        due("fetch", x.fetch(1, 2), 2);
        return x;
    }

    private static void theHighestFirst() {
        // 8 7 6 are all acknowledged; else 8 7 6, 5 4 3; else 9 8 7, 6 5 4, 3 2.
        dueTalk(partlyKnown(8, 8), 3, 3, 1);
        dueTalk(partlyKnown(8, 6), 3, 1, 1);
        dueTalk(partlyKnown(8, 5), 6, 3, 2);
        dueTalk(partlyKnown(8, 4), 6, 2, 2);
        dueTalk(partlyKnown(9, 2), 8, 1, 3);
        theHighestOfAllFirst();
    }

    private static void theHighestOfAllFirst() {
        PackExchange x = oneCommit(0);
        due("tree", x.tree(0, 1, -1), 3);
        due("commit", x.commit(0, 1, 3, -1), 4);
        due("fetch", x.fetch(1, 1), 3);
        due("point", x.point(1, 0, 2), 1);
        for (int n = 5; n < 60; n++) {
            due("commit", x.commit(1, 0, 1, -1), n);
        }
        due("push", x.push(1, 1), 1);
        due("59 58 57, which reach all other candidates", x.fetch(1, 2), 2);
        dueTalk(x, 3, 3, 1);
    }

    /** What acknowledged commits reach is not sent: the talk ends though one want found nothing. */
    private static void notWhatIsAcknowledged() {
        PackExchange x = chain(0, 6);
        due("tree", x.tree(0, 1, 1), 7);
        due("commit without parents", x.commit(0, 1, 7, -1), 8);
        due("fetch", x.fetch(1, 1), 7);
        due("the want 8: 6 5 4 are acknowledged, 3 and 2 are reached from them", x.fetch(1, 2), 2);
        dueTalk(x, 3, 3, 1);

        // Three of one line, then one of another that the server holds too.
        x = oneCommit(0);
        due("tree", x.tree(0, 1, 1), 3);
        due("commit", x.commit(0, 1, 3, -1), 4);
        due("fetch", x.fetch(1, 3), 5);
        due("point", x.point(1, 1, 4), 1);
        due("commit", x.commit(1, 1, 3, -1), 5);
        due("commit", x.commit(1, 1, 3, -1), 6);
        due("tree", x.tree(0, 3, -1), 7);
        due("commit", x.commit(0, 2, 7, -1), 8);
        due("6 5 4, and then 2, which 4 does not reach", x.fetch(1, 4), 2);
        dueTalk(x, 4, 2, 2);
    }

    private static void acknowledged() {
        PackExchange x = chain(0, 3);
        due("fetch", x.fetch(1, 1), 4);
        due("fetch", x.fetch(2, 1), 4);
        due("none", x.point(0, 0, -1), 1);
        due("tree", x.tree(0, 1, -1), 4);
        due("commit", x.commit(0, 1, 4, -1), 5);
        due("the server holds 3 and 2 without a reference", x.fetch(1, 2), 2);
        dueTalk(x, 2, 2, 1);
        due("given up", x.collect(0), 2);
        due("now it holds neither", x.fetch(2, 2), 4);
        dueTalk(x, 2, 0, 1);
    }

    /** Own commits of low numbers are left to send; the talk ends all the same. */
    private static void talkEndsAfterARound() {
        PackExchange x = chain(1, 5);
        due("blob", x.blob(0, 9), 6);
        due("tree", x.tree(0, 6, -1), 7);
        due("commit", x.commit(0, 0, 7, -1), 8);
        due("fetch", x.fetch(1, 1), 3);
        due("commit", x.commit(0, 0, 7, -1), 9);
        due("8 5 4: the want reaches 8", x.fetch(1, 1), 1);
        dueTalk(x, 3, 1, 1);
        due("a want that reaches nothing", x.tree(0, 7, -1), 10);
        due("commit", x.commit(0, 0, 7, -1), 11);
        due("commit", x.commit(0, 1, 10, -1), 12);
        due("9 8 5, 4 3 2: one of two wants reaches 9", x.fetch(1, 3), 3);
        dueTalk(x, 6, 2, 2);
    }

    private static void talkEndsBeforeARound() {
        dueTalk(strangers(0), 0, 0, 0);
        dueTalk(strangers(3), 3, 0, 1);
        dueTalk(strangers(6), 6, 0, 2);
    }

    private static void fetchedPack() {
        PackExchange x = oneCommit(0);
        due("blob", x.blob(1, 7), 0);
        due("tree", x.tree(1, 0, -1), 1);
        due("what the client holds is in it", x.fetch(1, 1), 3);
        duePack(x, 2, 1, 0);
        due("tree", x.tree(0, 0, 1), 3);
        due("commit", x.commit(0, 1, 3, -1), 4);
        due("what an acknowledged commit reaches is not, on whatever line", x.fetch(1, 2), 2);
        duePack(x, 4, 3);
        due("the largest pack", chain(0, 59).fetch(2, 1), 60);
    }

    private static void clientWritesTheLowestFirst() {
        for (int n = 0; n <= 4; n++) {
            PackExchange x = chain(0, 3);
            due("tree", x.tree(0, 0, 0), 4);
            due("commit", x.commit(0, 0, 4, -1), 5);
            due("blob", x.blob(1, 7), 0);
            due("arm", x.arm(1, n), true);
            due("fetch", x.fetch(1, 1), DOWN);
            due("recover", x.recover(1), 0);
            due("count", x.count(1), 1 + n);
            for (int object = 0; object < 6; object++) {
                due("holds(1, " + object + ")", x.holds(1, object), object <= n ? 1 : 0);
            }
        }
    }

    private static void fetchSetsReferences() {
        PackExchange x = chain(0, 3);
        due("point", x.point(0, 3, 2), 1);
        due("fetch", x.fetch(1, 14), 3);
        dueReferences(x, 1, NONE, NONE, NONE, NONE, NONE, NONE, NONE, 2);
        due("fetch", x.fetch(1, 15), 1);
        dueReferences(x, 1, NONE, NONE, NONE, NONE, 3, NONE, NONE, 2);
        due("none", x.point(0, 3, -1), 1);
        due("back", x.point(0, 0, 2), 1);
        due("what is none on the server stays", x.fetch(1, 15), 0);
        dueReferences(x, 1, NONE, NONE, NONE, NONE, 2, NONE, NONE, 2);
        due("what is not fetched stays", x.point(0, 0, 3), 1);
        due("fetch", x.fetch(1, 14), 0);
        dueReferences(x, 1, NONE, NONE, NONE, NONE, 2, NONE, NONE, 2);
        dueReferences(x, 0, 3);
    }

    private static void noWant() {
        PackExchange x = partlyKnown(8, 4);
        dueTalk(x, 6, 2, 2);
        due("all is held", x.fetch(1, 2), 0);
        dueTalk(x, 0, 0, 0);
        duePack(x);
        due("weight", x.weight(), 0);
        due("a reference that is none", x.fetch(2, 1), 0);
        dueTalk(x, 0, 0, 0);
        duePack(x);
    }

    private static void oldAndNew() {
        PackExchange x = chain(1, 3);
        due("point", x.point(1, 3, 2), 1);
        due("push of the last", x.push(1, 8), 1);
        dueReferences(x, 0, NONE, NONE, NONE, 2);
        dueReferences(x, 1, 3, NONE, NONE, 2, NONE, NONE, NONE, 2);
        due("the old value is that of its own r", x.push(1, 1), 1);
        dueReferences(x, 0, 3, NONE, NONE, 2);
        dueReferences(x, 1, 3, NONE, NONE, 2, 3, NONE, NONE, 2);
    }

    private static void stale() {
        PackExchange x = chain(1, 3);
        due("both none", x.push(1, 1), 1);
        dueVerdicts(x, 1, 0, 0, 0);
        makeOneCommit(x, 2);
        due("a commit on the server, none known", x.push(2, 1), 0);
        dueVerdicts(x, 2, 0, 0, 0);
        due("none", x.point(0, 0, -1), 1);
        due("none on the server, a commit known", x.push(1, 1), 0);
        dueVerdicts(x, 2, 0, 0, 0);
        due("back", x.point(0, 0, 2), 1);
        due("another on the server", x.push(1, 1), 0);
        dueVerdicts(x, 2, 0, 0, 0);
        due("also when the server has the new value already", x.point(0, 0, 3), 1);
        due("fetch", x.fetch(2, 1), 1);
        due("back", x.point(0, 0, 2), 1);
        due("point", x.point(2, 0, 2), 0);
        due("push", x.push(2, 1), 0);
        dueVerdicts(x, 2, 0, 0, 0);
    }

    private static void sideways() {
        PackExchange x = chain(1, 3);
        due("push", x.push(1, 1), 1);
        due("back to the parent", x.point(1, 0, 2), 1);
        due("push", x.push(1, 1), 0);
        dueVerdicts(x, 3, 0, 0, 0);
        due("tree", x.tree(1, 1, -1), 4);
        due("beside it", x.commit(1, 0, 4, -1), 5);
        due("push", x.push(1, 1), 0);
        dueVerdicts(x, 3, 0, 0, 0);
        due("stale comes first", x.point(0, 0, 2), 1);
        due("push", x.push(1, 1), 0);
        dueVerdicts(x, 2, 0, 0, 0);
    }

    private static void good() {
        PackExchange x = chain(1, 3);
        due("the old value is none", x.push(1, 1), 1);
        dueVerdicts(x, 1, 0, 0, 0);
        due("the old value is the new one", x.push(1, 1), 1);
        dueVerdicts(x, 1, 0, 0, 0);
        due("point", x.point(1, 0, 2), 1);
        due("commit", x.commit(1, 0, 1, 3), 4);
        due("the old value is the second parent", x.push(1, 1), 1);
        dueVerdicts(x, 1, 0, 0, 0);
        due("commit", x.commit(1, 0, 1, -1), 5);
        due("commit", x.commit(1, 0, 1, -1), 6);
        due("the old value is the parent's parent", x.push(1, 1), 1);
        dueVerdicts(x, 1, 0, 0, 0);
    }

    /** One good verdict and one of each other kind; a talk and a pack from before; no power. */
    private static PackExchange beforeRefusal() {
        PackExchange x = busy();
        due("disarm", x.arm(0, -1), true);
        due("disarm", x.arm(1, -1), true);
        due("point", x.point(1, 1, 10), 1);
        due("sideways", x.point(1, 1, 5), 1);
        due("stale", x.point(1, 2, 5), 1);
        due("stale", x.point(0, 2, 5), 1);
        due("arm", x.arm(0, 0), true);
        due("arm", x.arm(1, 0), true);
        return x;
    }

    private static void refusedPush() {
        PackExchange x = beforeRefusal();
        dueTalk(x, 3, 2, 1);
        due("packed", x.packed(), 4);
        due("refused", x.push(1, 7), 0);
        dueVerdicts(x, 1, 3, 2, 0);
        duePack(x);
        due("weight", x.weight(), 0);
        due("base", x.base(3), NONE);
        dueTalk(x, 3, 2, 1);
        PackExchange same = beforeRefusal();
        for (int node = 0; node < 3; node++) {
            due("up", x.up(node), true);
            due("count", x.count(node), same.count(node));
            for (int r = 0; r < 8; r++) {
                due("reference", x.reference(node, r), same.reference(node, r));
            }
        }
        due("6 was not sent", x.holds(0, 6), 0);
        due("one that is not good is enough", x.push(1, 3), 0);
        dueVerdicts(x, 1, 3, 0, 0);
        due("still armed", x.blob(0, 99), DOWN);
        due("still armed", x.blob(1, 99), DOWN);
    }

    private static void pushedPack() {
        PackExchange x = chain(1, 3);
        due("push", x.push(1, 1), 1);
        duePack(x, 3, 2, 1, 0);
        due("point", x.point(1, 3, 3), 1);
        due("commit", x.commit(1, 3, 1, -1), 4);
        due("another reference of the server reaches the rest", x.push(1, 8), 1);
        duePack(x, 4);
        due("nothing is left", x.push(1, 9), 1);
        duePack(x);
        makeOneCommit(x, 2);
        due("point", x.point(2, 1, 2), 1);
        due("the client holds none of the server's", x.push(2, 2), 1);
        duePack(x, 2, 1, 0);
        due("none", x.point(2, 2, -1), 0);
        due("point", x.point(2, 2, 2), 1);
        due("now it holds one", x.push(2, 4), 1);
        duePack(x);

        x = oneCommit(1);
        due("push", x.push(1, 1), 1);
        due("none", x.point(0, 0, -1), 1);
        due("point", x.point(1, 1, 2), 1);
        due("the server holds it without a reference", x.push(1, 2), 1);
        duePack(x, 2, 1, 0);
        x = chain(2, 59);
        due("the largest pack", x.push(2, 1), 1);
        due("packed", x.packed(), 60);
    }

    private static void serverWritesTheLowestFirst() {
        for (int n = 0; n <= 4; n++) {
            PackExchange x = chain(1, 3);
            due("tree", x.tree(1, 0, 0), 4);
            due("commit", x.commit(1, 0, 4, -1), 5);
            due("blob", x.blob(0, 7), 0);
            due("arm", x.arm(0, n), true);
            due("push", x.push(1, 1), DOWN);
            due("recover", x.recover(0), 0);
            due("count", x.count(0), 1 + n);
            for (int object = 0; object < 6; object++) {
                due("holds(0, " + object + ")", x.holds(0, object), object <= n ? 1 : 0);
            }
            dueReferences(x, 0);
            dueReferences(x, 1, 5);
        }
    }

    /** Three objects, two notes, the seal, two updates, the emptying. */
    private static void pushSetsTheServer() {
        for (int n = 3; n <= 9; n++) {
            PackExchange x = oneCommit(2);
            due("point", x.point(2, 3, 2), 1);
            due("arm", x.arm(0, n), true);
            due("push after " + n + " writes", x.push(2, 9), n == 9 ? 1 : DOWN);
            due("the client is up", x.up(2), true);
            due("reference of the client", x.reference(2, 4), n == 9 ? 2 : NONE);
            due("reference of the client", x.reference(2, 7), n == 9 ? 2 : NONE);
            due("recover", x.recover(0), n == 9 ? BAD : n >= 6 ? 2 : 0);
            int set = n >= 6 ? 2 : NONE;
            dueReferences(x, 0, set, NONE, NONE, set);
            dueHeld(x, 0, 0, 1, 2);
        }
    }

    /** Two notes, the seal, two updates, the emptying; the server is done before. */
    private static void pushSetsTheClient() {
        for (int n = 0; n <= 6; n++) {
            PackExchange x = oneCommit(2);
            due("point", x.point(2, 3, 2), 1);
            due("arm", x.arm(2, n), true);
            due("push after " + n + " writes", x.push(2, 9), n == 6 ? 1 : DOWN);
            due("the server is up", x.up(0), true);
            dueReferences(x, 0, 2, NONE, NONE, 2);
            due("recover", x.recover(2), n == 6 ? BAD : n >= 3 ? 2 : 0);
            int set = n >= 3 ? 2 : NONE;
            dueReferences(x, 2, 2, NONE, NONE, 2, set, NONE, NONE, set);
            dueReferences(x, 1);
        }
    }

    private static void places() {
        PackExchange x = new PackExchange();
        due("blob", x.blob(1, 1), 0);
        due("tree", x.tree(1, 0, -1), 1);
        due("commit", x.commit(1, 0, 1, -1), 2);
        due("blob", x.blob(1, 2), 3);
        due("tree", x.tree(1, 3, 1), 4);
        due("commit", x.commit(1, 0, 4, -1), 5);
        due("push", x.push(1, 1), 1);
        duePack(x, 5, 2, 4, 1, 3, 0);
        due("before the first place", x.packAt(-1), NONE);
        x = chain(1, 59);
        due("push", x.push(1, 1), 1);
        due("the first of 60", x.packAt(0), 59);
        due("the last commit", x.packAt(57), 2);
        due("the tree", x.packAt(58), 1);
        due("the last of 60", x.packAt(59), 0);
        due("behind the last", x.packAt(60), NONE);
    }

    private static void threeBases() {
        due("whole: commit 2, tree 2, blob 8", blobs(0x5).weight(), 12);
        dueBases(blobs(0x5), -1);
        dueBases(blobs(0x1, 0x0), -1, 0);
        dueBases(blobs(0x1, 0x33333333, 0x0), -1, -1, 0);
        dueBases(blobs(0x1, 0x33333333, 0x44444444, 0x0), -1, -1, -1, 0);
        dueBases(blobs(0x1, 0x22222222, 0x33333333, 0x44444444, 0x0), -1, -1, -1, -1, -1);
        due("four whole ones", blobs(0x1, 0x22222222, 0x33333333, 0x44444444, 0x0).weight(), 2 + 14 + 40);
    }

    private static void deltaWeights() {
        for (int digit = 0; digit < 8; digit++) {
            for (int value = 1; value < 16; value++) {
                due("one digit", blobs(value << 4 * digit, 0).weight(), 2 + 5 + 8 + 3);
            }
        }
        int content = 0;
        for (int digits = 1; digits <= 8; digits++) {
            content = content << 4 | digits;
            int delta = Math.min(8, 2 + digits);
            due(digits + " digits", blobs(content, 0).weight(), 2 + 5 + 8 + delta);
            due(digits + " digits, the other way", blobs(0, content).weight(), 2 + 5 + 8 + delta);
            due(digits + " digits from all ones", blobs(~content, -1).weight(), 2 + 5 + 8 + delta);
        }
        due("the ends of the ints: all eight digits", blobs(LEAST, MOST).weight(), 2 + 5 + 16);
        due("-1 and the greatest: one digit", blobs(-1, MOST).weight(), 2 + 5 + 8 + 3);
        due("0 and the least: one digit", blobs(0, LEAST).weight(), 2 + 5 + 8 + 3);
        due("0 and -1: all eight digits", blobs(0, -1).weight(), 2 + 5 + 16);
        due("15 and 16, one apart: two digits", blobs(15, 16).weight(), 2 + 5 + 8 + 4);
    }

    /** Blobs 1 .. 7, each one digit from each other: chains 0 1 2 2 2, and then whole again. */
    private static void chains() {
        dueBases(blobs(3, 2, 1), -1, 0, 1);
        dueBases(blobs(4, 3, 2, 1), -1, 0, 1, 1);
        dueBases(blobs(7, 6, 5, 4, 3, 2, 1), -1, 0, 1, 1, 1, -1, 5);
        due("weight", blobs(7, 6, 5, 4, 3, 2, 1).weight(), 2 + 20 + 8 + 4 * 3 + 8 + 3);
        // At place 6 there was a blob of chain 2 in the pack before; now there is a whole one.
        PackExchange x = blobs(3, 2, 1);
        due("base", x.base(6), 5);
        pushBlobs(x, 1, 7, 0x44444444, 0x22222223, 0x22222222, 0x11111111);
        dueBases(x, -1, -1, 1, -1);
    }

    private static void leastWeight() {
        // The third is nearer to the first than to the second.
        dueBases(blobs(0x1, 0x111, 0x0), -1, 0, 0);
        dueBases(blobs(0x11, 0x10, 0x01), -1, 0, 1);
        // The fourth is nearest to the third, whose chain is 2 already.
        dueBases(blobs(0x1111, 0x111, 0x11, 0x1), -1, 0, 1, 1);
        due("weight", blobs(0x1111, 0x111, 0x11, 0x1).weight(), 2 + 11 + 8 + 3 + 3 + 4);
    }

    private static void highestPlace() {
        dueBases(blobs(0x3, 0x2, 0x1), -1, 0, 1);
        // Equal to both, at any distance; then equal to the two that are farther off.
        dueBases(blobs(0x00, 0x0F, 0x10), -1, 0, 1);
        dueBases(blobs(0x100, 0x33333333, 0x001, 0x000), -1, 0, -1, 0);
        dueBases(blobs(0x003, 0x77777777, 0x002, 0x001), -1, 0, -1, 1);
    }

    private static void noBaseLeft() {
        dueBases(blobs(6, 5, 4, 3, 2, 1), -1, 0, 1, 1, 1, -1);
        PackExchange x = blobs(6, 5, 4, 3, 2, 1);
        due("the first blob is at place 7", x.base(7), NONE);
        due("trees and commits are no bases", x.base(6), NONE);
        due("weight", x.weight(), 2 + 17 + 8 + 4 * 3 + 8);
    }

    private static void notBelowEight() {
        dueBases(blobs(0x11111, 0x0), -1, 0);
        dueBases(blobs(0x111111, 0x0), -1, -1);
        dueBases(blobs(0x1111111, 0x0), -1, -1);
        // Whole, and so a base of chain 0 for the next one.
        dueBases(blobs(0x111110, 0x111111, 0x0), -1, -1, 1);
    }

    private static void otherWeights() {
        PackExchange x = oneCommit(1);
        due("push", x.push(1, 1), 1);
        due("no parent, one entry", x.weight(), 2 + 2 + 8);
        due("commit", x.commit(1, 0, 1, -1), 3);
        due("push", x.push(1, 1), 1);
        due("one parent", x.weight(), 3);
        due("commit", x.commit(1, 0, 1, 2), 4);
        due("push", x.push(1, 1), 1);
        due("two parents", x.weight(), 4);
        due("the same entry twice", x.tree(1, 0, 0), 5);
        due("commit", x.commit(1, 0, 5, -1), 6);
        due("push", x.push(1, 1), 1);
        due("one parent, two entries", x.weight(), 3 + 3);
    }

    private static void orderOfRefusals() {
        PackExchange x = full(1);
        due("point", x.point(1, 1, 2), 1);
        due("no entry before full", x.tree(1, 2, -1), BAD);
        due("no tree before full", x.commit(1, 0, 0, -1), BAD);
        due("the reference's commit before full", x.commit(1, 0, 1, 2), BAD);
        due("full", x.commit(1, 0, 1, -1), FULL);
        due("arm", x.arm(2, 0), true);
        due("power ends", x.blob(2, 7), DOWN);
        due("down before full", x.blob(2, 0), DOWN);
        due("no node before full", x.blob(3, 0), BAD);
        due("down before no entry", x.tree(2, -5, -5), DOWN);
        due("no reference before down", x.commit(2, 4, 1, -1), BAD);
        due("down before no tree", x.commit(2, 0, 0, -1), DOWN);
        due("no reference before down", x.point(2, 4, 2), BAD);
        due("down before no commit", x.point(2, 0, 0), DOWN);
        due("no set before down", x.fetch(2, 16), BAD);
        due("no set before down", x.push(2, 0), BAD);
        due("down before a reference that is none", x.push(2, 1), DOWN);
        due("no reference before down", x.reference(2, 8), BAD);
        due("down before no object", x.holds(2, 60), DOWN);
        due("a reference that is none before a verdict", x.push(1, 5), BAD);
        due("arm", x.arm(0, 0), true);
        due("power ends", x.blob(0, 7), DOWN);
        due("the server is down, before a reference that is none", x.push(1, 4), DOWN);
        due("no client before down", x.push(0, 1), BAD);
        due("no client before down", x.fetch(0, 1), BAD);
    }

    private static void nodesNotNeeded() {
        PackExchange x = busy();
        due("disarm", x.arm(0, -1), true);
        due("disarm", x.arm(1, -1), true);
        putDown(x, 2);
        due("client 2 is not needed for a fetch", x.fetch(1, 3), 0);
        due("nor for a push", x.push(1, 1), 1);
        putDown(x, 0);
        due("a node that is up by itself writes", x.blob(1, 70), 11);
        due("tree", x.tree(1, 11, -1), 12);
        due("commit", x.commit(1, 3, 12, -1), 13);
        due("point", x.point(1, 3, -1), 1);
        due("collect", x.collect(1), 3);
        due("reference", x.reference(1, 0), 6);
        due("holds", x.holds(1, 6), 1);
        due("count", x.count(1), 11);
        putDown(x, 1);
        due("these need no node", x.talk(2), 0);
        duePack(x, 6);
        due("base", x.base(0), NONE);
        due("weight", x.weight(), 3);
        dueVerdicts(x, 1, 0, 0, 0);
        for (int node = 0; node < 3; node++) {
            due("arm", x.arm(node, 1), true);
            due("recover", x.recover(node), 0);
        }
    }

    private static void badChangesNothing() {
        for (int node : NO_NODES) {
            dueNoChange("blob", Scenes::busy, BAD, x -> x.blob(node, 1));
            dueNoChange("tree", Scenes::busy, BAD, x -> x.tree(node, 0, -1));
            dueNoChange("commit", Scenes::busy, BAD, x -> x.commit(node, 0, 1, -1));
            dueNoChange("point", Scenes::busy, BAD, x -> x.point(node, 0, -1));
            dueNoChange("recover", Scenes::busy, BAD, x -> x.recover(node));
            dueNoChange("collect", Scenes::busy, BAD, x -> x.collect(node));
        }
        for (int node = 0; node < 2; node++) {
            int writer = node;
            dueNoChange("tree", Scenes::busy, BAD, x -> x.tree(writer, 2, -1));
            dueNoChange("tree", Scenes::busy, BAD, x -> x.tree(writer, 0, 2));
            dueNoChange("commit", Scenes::busy, BAD, x -> x.commit(writer, 4, 1, -1));
            dueNoChange("commit", Scenes::busy, BAD, x -> x.commit(writer, 0, 0, -1));
            dueNoChange("commit", Scenes::busy, BAD, x -> x.commit(writer, 0, 1, 1));
            dueNoChange("point", Scenes::busy, BAD, x -> x.point(writer, 4, -1));
            dueNoChange("point", Scenes::busy, BAD, x -> x.point(writer, 0, 1));
            dueNoChange("recover", Scenes::busy, BAD, x -> x.recover(writer));
        }
        for (int client : NO_CLIENTS) {
            dueNoChange("fetch", Scenes::busy, BAD, x -> x.fetch(client, 1));
            dueNoChange("push", Scenes::busy, BAD, x -> x.push(client, 1));
        }
        for (int set : NO_SETS) {
            dueNoChange("fetch", Scenes::busy, BAD, x -> x.fetch(1, set));
            dueNoChange("push", Scenes::busy, BAD, x -> x.push(1, set));
        }
        dueNoChange("a reference that is none", Scenes::busy, BAD, x -> x.push(1, 9));
    }

    private static void downChangesNothing() {
        for (int node = 0; node < 3; node++) {
            int down = node;
            dueNoChange("blob", () -> busyAndDown(down), DOWN, x -> x.blob(down, 1));
            dueNoChange("tree", () -> busyAndDown(down), DOWN, x -> x.tree(down, 1, -1));
            dueNoChange("commit", () -> busyAndDown(down), DOWN, x -> x.commit(down, 0, 1, -1));
            dueNoChange("point", () -> busyAndDown(down), DOWN, x -> x.point(down, 0, -1));
            dueNoChange("collect", () -> busyAndDown(down), DOWN, x -> x.collect(down));
            dueNoChange("count", () -> busyAndDown(down), DOWN, x -> x.count(down));
            int client = Math.max(1, down);
            dueNoChange("fetch", () -> busyAndDown(down), DOWN, x -> x.fetch(client, 3));
            dueNoChange("push", () -> busyAndDown(down), DOWN, x -> x.push(client, 1));
        }
        dueNoChange("the server is down for 2 too", () -> busyAndDown(0), DOWN, x -> x.fetch(2, 3));
    }

    private static PackExchange fullAndArmed() {
        PackExchange x = full(1);
        due("push", x.push(1, 1), 1);
        due("arm", x.arm(1, 0), true);
        return x;
    }

    private static void fullChangesNothing() {
        dueNoChange("blob", TermsTest::fullAndArmed, FULL, x -> x.blob(1, 1));
        dueNoChange("blob elsewhere", TermsTest::fullAndArmed, FULL, x -> x.blob(0, 1));
        dueNoChange("tree", TermsTest::fullAndArmed, FULL, x -> x.tree(1, 3, -1));
        dueNoChange("commit", TermsTest::fullAndArmed, FULL, x -> x.commit(1, 0, 1, -1));
    }

    private static void nothingIsRead() {
        PackExchange x = heldByBoth();
        due("fetch", x.fetch(1, 15), 0);
        putDown(x, 1);
        for (int r = 0; r < 8; r++) {
            due("reference", x.reference(1, r), DOWN);
        }
        for (int object : new int[] {-1, 0, 1, 2, 3, 59, 60}) {
            due("holds", x.holds(1, object), DOWN);
        }
        due("count", x.count(1), DOWN);
        due("up", x.up(1), false);
        due("the others are read", x.count(0), 3);
        due("the others are read", x.reference(2, 0), NONE);
        due("recover", x.recover(1), 0);
        dueReferences(x, 1, 2, NONE, NONE, NONE, 2, 2, 2, 2);
        dueHeld(x, 1, 0, 1, 2);
    }
}
