/**
 * A server and two clients that keep commits, exchange exactly the objects that the other side
 * lacks, and move references as wholes, also when a node loses its power in the middle of writing.
 *
 * <p>There are at most 60 objects, so a set of objects is a long with one bit for each number.
 */
public final class PackExchange {
    public static final int BAD = -1;
    public static final int DOWN = -2;
    public static final int FULL = -3;
    public static final int NONE = -4;

    private static final int SERVER = 0;
    private static final int NODES = 3;
    private static final int LIMIT = 60;
    private static final int MOST_ARMED = 100;

    /** How many references of its own a node has; also the way from r to 4 + r. */
    private static final int OWN = 4;
    private static final int REFERENCES = 8;
    private static final int ALL_OWN = 15;
    private static final int ALL_REFERENCES = 255;

    /** No object: a reference that is none, a second entry or a parent that is not there. */
    private static final int ABSENT = -1;
    /** In a row of new values of references: this one is not to be set. */
    private static final int KEEP = -2;

    private static final int BLOB = 0;
    private static final int TREE = 1;
    private static final int COMMIT = 2;

    private static final int GOOD = 1;
    private static final int STALE = 2;
    private static final int SIDEWAYS = 3;

    private final Store store;
    private final Node[] nodes;
    private final Talk latestTalk;
    private final Pack latestPack;
    private final int[] verdicts;
    /** The new values that the next transaction is to set. */
    private final int[] targets;

    public PackExchange() {
        store = new Store();
        nodes = new Node[NODES];
        for (int node = 0; node < NODES; node++) {
            nodes[node] = new Node();
        }
        latestTalk = new Talk();
        latestPack = new Pack();
        verdicts = new int[OWN];
        targets = new int[REFERENCES];
    }

    public int blob(int node, int content) {
        if (!isNode(node)) {
            return BAD;
        }
        if (!nodes[node].isUp()) {
            return DOWN;
        }
        return writeObject(nodes[node], BLOB, content, ABSENT, ABSENT);
    }

    public int tree(int node, int first, int second) {
        if (!isNode(node)) {
            return BAD;
        }
        Node writer = nodes[node];
        if (!writer.isUp()) {
            return DOWN;
        }
        if (!isEntry(writer, first) || second != ABSENT && !isEntry(writer, second)) {
            return BAD;
        }
        return writeObject(writer, TREE, first, second, ABSENT);
    }

    public int commit(int node, int reference, int tree, int other) {
        if (!isNode(node) || !isOwnReference(reference)) {
            return BAD;
        }
        Node writer = nodes[node];
        if (!writer.isUp()) {
            return DOWN;
        }
        int current = writer.valueOf(reference);
        if (!holdsKind(writer, tree, TREE) || !isCommitOrAbsent(writer, other)) {
            return BAD;
        }
        if (other != ABSENT && other == current) {
            return BAD;
        }
        // A parent that is not there leaves no gap: the same parents make the same commit.
        int number = current == ABSENT
                ? writeObject(writer, COMMIT, tree, other, ABSENT)
                : writeObject(writer, COMMIT, tree, current, other);
        if (number < 0) {
            return number;
        }
        aimAtOne(reference, number);
        return writer.transact(targets) ? number : DOWN;
    }

    public int point(int node, int reference, int commit) {
        if (!isNode(node) || !isOwnReference(reference)) {
            return BAD;
        }
        Node writer = nodes[node];
        if (!writer.isUp()) {
            return DOWN;
        }
        if (!isCommitOrAbsent(writer, commit)) {
            return BAD;
        }
        if (writer.valueOf(reference) == commit) {
            return 0;
        }
        aimAtOne(reference, commit);
        return writer.transact(targets) ? 1 : DOWN;
    }

    public int fetch(int client, int set) {
        if (!isClient(client) || !isSet(set)) {
            return BAD;
        }
        Node server = nodes[SERVER];
        Node own = nodes[client];
        if (!own.isUp() || !server.isUp()) {
            return DOWN;
        }
        long wants = server.commitsOf(set) & ~own.heldSet();
        long candidates = store.reachOfAll(own.commitsOf(ALL_REFERENCES)) & store.allOfKind(COMMIT);
        long acknowledged = latestTalk.run(store, wants, candidates, server.heldSet());
        latestPack.fill(store, store.reachOfAll(wants) & ~store.reachOfAll(acknowledged));
        if (!own.writeMissing(latestPack.memberSet())) {
            return DOWN;
        }
        aimAtValues(server, set, OWN);
        return own.transact(targets) ? latestPack.length() : DOWN;
    }

    public int push(int client, int set) {
        if (!isClient(client) || !isSet(set)) {
            return BAD;
        }
        Node server = nodes[SERVER];
        Node own = nodes[client];
        if (!own.isUp() || !server.isUp()) {
            return DOWN;
        }
        if (!own.hasValues(set)) {
            return BAD;
        }
        if (!judge(own, server, set)) {
            latestPack.fill(store, 0L);
            return 0;
        }
        long common = server.commitsOf(ALL_OWN) & own.heldSet();
        latestPack.fill(store, store.reachOfAll(own.commitsOf(set)) & ~store.reachOfAll(common));
        return carryOutPush(own, server, set) ? 1 : DOWN;
    }

    public boolean arm(int node, int n) {
        if (!isNode(node) || n < -1 || n > MOST_ARMED) {
            return false;
        }
        nodes[node].armWith(n);
        return true;
    }

    public int recover(int node) {
        if (!isNode(node) || nodes[node].isUp()) {
            return BAD;
        }
        return nodes[node].restore();
    }

    public int collect(int node) {
        if (!isNode(node)) {
            return BAD;
        }
        Node owner = nodes[node];
        if (!owner.isUp()) {
            return DOWN;
        }
        return owner.keepOnly(store.reachOfAll(owner.commitsOf(ALL_REFERENCES)));
    }

    public boolean up(int node) {
        return isNode(node) && nodes[node].isUp();
    }

    public int reference(int node, int reference) {
        if (!isNode(node) || reference < 0 || reference >= REFERENCES) {
            return BAD;
        }
        if (!nodes[node].isUp()) {
            return DOWN;
        }
        int value = nodes[node].valueOf(reference);
        return value == ABSENT ? NONE : value;
    }

    public int holds(int node, int object) {
        if (!isNode(node)) {
            return BAD;
        }
        if (!nodes[node].isUp()) {
            return DOWN;
        }
        return isIn(nodes[node].heldSet(), object) ? 1 : 0;
    }

    public int count(int node) {
        if (!isNode(node)) {
            return BAD;
        }
        if (!nodes[node].isUp()) {
            return DOWN;
        }
        return Long.bitCount(nodes[node].heldSet());
    }

    public int talk(int which) {
        switch (which) {
            case 0:
                return latestTalk.havesSent();
            case 1:
                return latestTalk.havesAcknowledged();
            case 2:
                return latestTalk.roundsHeld();
            default:
                return BAD;
        }
    }

    public int packed() {
        return latestPack.length();
    }

    public int packAt(int place) {
        return latestPack.objectAt(place);
    }

    public int base(int place) {
        return latestPack.baseAt(place);
    }

    public int weight() {
        return latestPack.totalWeight();
    }

    public int verdict(int r) {
        return isOwnReference(r) ? verdicts[r] : 0;
    }

    private static boolean isNode(int node) {
        return node >= 0 && node < NODES;
    }

    private static boolean isClient(int node) {
        return isNode(node) && node != SERVER;
    }

    private static boolean isOwnReference(int reference) {
        return reference >= 0 && reference < OWN;
    }

    private static boolean isSet(int set) {
        return set >= 1 && set <= ALL_OWN;
    }

    private static boolean isIn(long objects, int number) {
        return number >= 0 && number < LIMIT && (objects >>> number & 1L) != 0;
    }

    private static boolean isChosen(int set, int reference) {
        return (set >>> reference & 1) != 0;
    }

    private boolean holdsKind(Node node, int number, int kind) {
        return isIn(node.heldSet(), number) && store.isOfKind(number, kind);
    }

    private boolean isEntry(Node node, int number) {
        return holdsKind(node, number, BLOB) || holdsKind(node, number, TREE);
    }

    private boolean isCommitOrAbsent(Node node, int number) {
        return number == ABSENT || holdsKind(node, number, COMMIT);
    }

    /** Answers the object's number, FULL or DOWN; only a write that is done gives a new number. */
    private int writeObject(Node node, int kind, int first, int second, int third) {
        int number = store.find(kind, first, second, third);
        if (number == ABSENT && store.isFull()) {
            return FULL;
        }
        if (isIn(node.heldSet(), number)) {
            return number;
        }
        if (!node.write()) {
            return DOWN;
        }
        if (number == ABSENT) {
            number = store.add(kind, first, second, third);
        }
        node.keep(number);
        return number;
    }

    private void clearTargets() {
        for (int r = 0; r < REFERENCES; r++) {
            targets[r] = KEEP;
        }
    }

    private void aimAtOne(int reference, int value) {
        clearTargets();
        targets[reference] = value;
    }

    /** Aims the references r + shift at the values that the chosen r have on a node. */
    private void aimAtValues(Node from, int set, int shift) {
        clearTargets();
        for (int r = 0; r < OWN; r++) {
            if (isChosen(set, r) && from.valueOf(r) != ABSENT) {
                targets[r + shift] = from.valueOf(r);
            }
        }
    }

    /** Notes the verdicts of a push; answers whether all are good. */
    private boolean judge(Node own, Node server, int set) {
        boolean good = true;
        for (int r = 0; r < OWN; r++) {
            verdicts[r] = isChosen(set, r) ? verdictOn(own, server, r) : 0;
            good = good && (verdicts[r] == 0 || verdicts[r] == GOOD);
        }
        return good;
    }

    private int verdictOn(Node own, Node server, int r) {
        int old = own.valueOf(OWN + r);
        if (server.valueOf(r) != old) {
            return STALE;
        }
        if (old != ABSENT && !isIn(store.reachOf(own.valueOf(r)), old)) {
            return SIDEWAYS;
        }
        return GOOD;
    }

    private boolean carryOutPush(Node own, Node server, int set) {
        if (!server.writeMissing(latestPack.memberSet())) {
            return false;
        }
        aimAtValues(own, set, 0);
        if (!server.transact(targets)) {
            return false;
        }
        aimAtValues(own, set, OWN);
        return own.transact(targets);
    }

    /**
     * All objects that were ever written anywhere. What an object is made of was written before it
     * and so has lower numbers: what it reaches is known for good when it is added.
     */
    private static final class Store {
        private final int[] kinds = new int[LIMIT];
        /** A blob's content, a tree's first entry, a commit's tree. */
        private final int[] firsts = new int[LIMIT];
        /** A tree's second entry, a commit's first parent. */
        private final int[] seconds = new int[LIMIT];
        /** A commit's second parent. */
        private final int[] thirds = new int[LIMIT];
        private final long[] reaches = new long[LIMIT];
        private int size = 0;

        boolean isFull() {
            return size >= LIMIT;
        }

        boolean isOfKind(int number, int kind) {
            return isNumber(number) && kinds[number] == kind;
        }

        int find(int kind, int first, int second, int third) {
            for (int n = 0; n < size; n++) {
                if (kinds[n] == kind && firsts[n] == first && seconds[n] == second && thirds[n] == third) {
                    return n;
                }
            }
            return ABSENT;
        }

        int add(int kind, int first, int second, int third) {
            if (isFull()) {
                return ABSENT;
            }
            int number = size;
            long reach = 1L << number;
            if (kind != BLOB) {
                reach = reach | reachOf(first) | reachOf(second) | reachOf(third);
            }
            kinds[number] = kind;
            firsts[number] = first;
            seconds[number] = second;
            thirds[number] = third;
            reaches[number] = reach;
            size = number + 1;
            return number;
        }

        long reachOf(int number) {
            return isNumber(number) ? reaches[number] : 0L;
        }

        long reachOfAll(long objects) {
            long reach = 0L;
            for (int n = 0; n < size; n++) {
                if (isIn(objects, n)) {
                    reach |= reaches[n];
                }
            }
            return reach;
        }

        boolean eachReachesOne(long objects, long goals) {
            for (int n = 0; n < size; n++) {
                if (isIn(objects, n) && (reaches[n] & goals) == 0L) {
                    return false;
                }
            }
            return true;
        }

        long allOfKind(int kind) {
            long objects = 0L;
            for (int n = 0; n < size; n++) {
                if (kinds[n] == kind) {
                    objects |= 1L << n;
                }
            }
            return objects;
        }

        int contentOf(int number) {
            return isNumber(number) ? firsts[number] : 0;
        }

        /** How many entries a tree has, or how many a commit's tree and parents are. */
        int partsOf(int number) {
            if (!isNumber(number) || kinds[number] == BLOB) {
                return 0;
            }
            return 1 + (seconds[number] == ABSENT ? 0 : 1) + (thirds[number] == ABSENT ? 0 : 1);
        }

        private boolean isNumber(int number) {
            return number >= 0 && number < size;
        }
    }

    /** A server or client: its objects, references and log, and the power that it has left. */
    private static final class Node {
        private final int[] values = new int[REFERENCES];
        /** The noted new values; KEEP where none is noted. */
        private final int[] log = new int[REFERENCES];
        private int noted = 0;
        private boolean sealed = false;
        private long held = 0L;
        private boolean powered = true;
        /** How many writes are left before the power ends; -1: the node is not armed. */
        private int writesLeft = -1;

        Node() {
            for (int r = 0; r < REFERENCES; r++) {
                values[r] = ABSENT;
                log[r] = KEEP;
            }
        }

        boolean isUp() {
            return powered;
        }

        void armWith(int n) {
            writesLeft = n;
        }

        /** Makes one write, unless the power ends with it: then it is not done. */
        boolean write() {
            if (writesLeft == 0) {
                powered = false;
                writesLeft = -1;
                return false;
            }
            if (writesLeft > 0) {
                writesLeft--;
            }
            return true;
        }

        long heldSet() {
            return held;
        }

        void keep(int number) {
            if (number >= 0 && number < LIMIT) {
                held |= 1L << number;
            }
        }

        /** Gives up all other objects; answers how many these were. */
        int keepOnly(long objects) {
            int before = Long.bitCount(held);
            held &= objects;
            return before - Long.bitCount(held);
        }

        boolean writeMissing(long objects) {
            long missing = objects & ~held;
            for (int n = 0; n < LIMIT; n++) {
                if (isIn(missing, n)) {
                    if (!write()) {
                        return false;
                    }
                    keep(n);
                }
            }
            return true;
        }

        int valueOf(int reference) {
            return reference >= 0 && reference < REFERENCES ? values[reference] : ABSENT;
        }

        boolean hasValues(int set) {
            for (int r = 0; r < REFERENCES; r++) {
                if (isChosen(set, r) && values[r] == ABSENT) {
                    return false;
                }
            }
            return true;
        }

        long commitsOf(int set) {
            long commits = 0L;
            for (int r = 0; r < REFERENCES; r++) {
                if (isChosen(set, r) && values[r] != ABSENT) {
                    commits |= 1L << values[r];
                }
            }
            return commits;
        }

        /** Sets references to their new values as a whole; answers false when the power ended. */
        boolean transact(int[] newValues) {
            for (int r = 0; r < REFERENCES && r < newValues.length; r++) {
                if (newValues[r] != KEEP && newValues[r] != values[r]) {
                    if (!write()) {
                        return false;
                    }
                    log[r] = newValues[r];
                    noted++;
                }
            }
            if (noted == 0) {
                return true;
            }
            if (!write()) {
                return false;
            }
            sealed = true;
            return carryOutLog();
        }

        /** Brings the node up again; answers the number of updates carried out, or DOWN. */
        int restore() {
            int updates = sealed ? noted : 0;
            boolean done = sealed ? carryOutLog() : noted == 0 || emptyLog();
            if (!done) {
                return DOWN;
            }
            powered = true;
            return updates;
        }

        private boolean carryOutLog() {
            for (int r = 0; r < REFERENCES; r++) {
                if (log[r] != KEEP) {
                    if (!write()) {
                        return false;
                    }
                    values[r] = log[r];
                }
            }
            return emptyLog();
        }

        private boolean emptyLog() {
            if (!write()) {
                return false;
            }
            for (int r = 0; r < REFERENCES; r++) {
                log[r] = KEEP;
            }
            noted = 0;
            sealed = false;
            return true;
        }
    }

    /** The talk of a fetch, in which client and server find commits that both hold. */
    private static final class Talk {
        private static final int MOST_HAVES = 3;

        private int sent = 0;
        private int acknowledged = 0;
        private int rounds = 0;

        /** Answers the acknowledged commits. Without a want there is nothing to find, and no round. */
        long run(Store store, long wants, long candidates, long heldByServer) {
            long known = 0L;
            long left = candidates;
            sent = 0;
            rounds = 0;
            // Each round sends at least one candidate, so there are never more rounds than objects.
            while (rounds < LIMIT && left != 0L && !store.eachReachesOne(wants, known)) {
                long haves = highest(left);
                sent += Long.bitCount(haves);
                known |= haves & heldByServer;
                left &= ~(haves | store.reachOfAll(known));
                rounds++;
            }
            acknowledged = Long.bitCount(known);
            return known;
        }

        int havesSent() {
            return sent;
        }

        int havesAcknowledged() {
            return acknowledged;
        }

        int roundsHeld() {
            return rounds;
        }

        private static long highest(long objects) {
            long chosen = 0L;
            int found = 0;
            for (int n = LIMIT - 1; n >= 0 && found < MOST_HAVES; n--) {
                if (isIn(objects, n)) {
                    chosen |= 1L << n;
                    found++;
                }
            }
            return chosen;
        }
    }

    /** The objects of a fetch or push at their places, the blobs as deltas where that is lighter. */
    private static final class Pack {
        private static final int WHOLE_WEIGHT = 8;
        private static final int DELTA_WEIGHT = 2;
        private static final int BASES = 3;
        private static final int MOST_CHAIN = 2;
        private static final int DIGITS = 8;

        private final int[] objects = new int[LIMIT];
        private final int[] bases = new int[LIMIT];
        private final int[] chains = new int[LIMIT];
        private long members = 0L;
        private int size = 0;
        private int total = 0;

        void fill(Store store, long newMembers) {
            members = newMembers;
            size = 0;
            total = 0;
            placeKind(store, COMMIT);
            placeKind(store, TREE);
            placeKind(store, BLOB);
        }

        long memberSet() {
            return members;
        }

        int length() {
            return size;
        }

        int totalWeight() {
            return total;
        }

        int objectAt(int place) {
            return isPlace(place) ? objects[place] : NONE;
        }

        int baseAt(int place) {
            return isPlace(place) ? bases[place] : NONE;
        }

        private boolean isPlace(int place) {
            return place >= 0 && place < size;
        }

        private void placeKind(Store store, int kind) {
            for (int n = LIMIT - 1; n >= 0 && size < LIMIT; n--) {
                if (isIn(members, n) && store.isOfKind(n, kind)) {
                    int place = size;
                    objects[place] = n;
                    bases[place] = NONE;
                    chains[place] = 0;
                    total += kind == BLOB ? chooseBase(store, place) : 1 + store.partsOf(n);
                    size = place + 1;
                }
            }
        }

        /** Answers the blob's weight. Later places come first, so among equals the highest stays. */
        private int chooseBase(Store store, int place) {
            int least = WHOLE_WEIGHT;
            int content = store.contentOf(objects[place]);
            for (int before = place - 1; before >= 0 && before >= place - BASES; before--) {
                if (store.isOfKind(objects[before], BLOB) && chains[before] < MOST_CHAIN) {
                    int delta = DELTA_WEIGHT + differingDigits(content, store.contentOf(objects[before]));
                    if (delta < least) {
                        least = delta;
                        bases[place] = before;
                        chains[place] = chains[before] + 1;
                    }
                }
            }
            return least;
        }

        private static int differingDigits(int one, int other) {
            int difference = one ^ other;
            int digits = 0;
            for (int digit = 0; digit < DIGITS; digit++) {
                if ((difference >>> 4 * digit & 15) != 0) {
                    digits++;
                }
            }
            return digits;
        }
    }
}
