import java.util.ArrayList;
import java.util.List;
import java.util.Random;
import java.util.TreeMap;
import java.util.TreeSet;

/**
 * Random runs of at most 512 calls, each answered by the class and by a second, slow telling of the
 * document: sets, lists and recursion in place of bits. The seeds are fixed, so runs repeat.
 */
public final class ModelTest {
    private static final int RUNS = 4000;
    private static final int CALLS = 512;
    /** Answers above this one count as this one where the sorts of answers are counted. */
    private static final int LARGEST = 4;

    public static void main(String[] args) {
        int wrong = 0;
        TreeMap<String, Integer> seen = new TreeMap<>();
        for (int seed = 0; seed < RUNS && wrong < 5; seed++) {
            if (!run(seed, seen)) {
                wrong++;
            }
        }
        wrong += checkVariety(seen);
        System.out.println(wrong == 0 ? "the model and the class agree" : wrong + " runs are not as due");
        if (wrong != 0) {
            System.exit(1);
        }
    }

    /** The runs are worth something only when they come upon every sort of answer. */
    private static int checkVariety(TreeMap<String, Integer> seen) {
        String[] needed = {
            "blob 0", "blob -1", "blob -2", "blob -3", "tree 4", "tree -1", "tree -2", "tree -3",
            "commit 4", "commit -1", "commit -2", "commit -3", "point 0", "point 1", "point -1",
            "point -2", "fetch 0", "fetch 1", "fetch -1", "fetch -2", "push 0", "push 1", "push -1", "push -2",
            "arm 0", "arm 1", "recover 0", "recover 1", "recover -1", "recover -2", "collect 0",
            "collect 1", "collect -1", "collect -2", "up 0", "up 1", "reference 4", "reference -1",
            "reference -2", "reference -4", "holds 0", "holds 1", "holds -1", "holds -2", "count 0",
            "count 1", "count -1", "count -2", "talk 0", "talk 1", "talk -1", "packed 0", "packed 1",
            "packAt 1", "packAt -4", "base 4", "base -4", "weight 0", "weight 4", "verdict 0",
            "verdict 1", "verdict 2", "verdict 3", "talk 2", "talk 4", "recover 2", "recover 3"};
        int missing = 0;
        for (String sort : needed) {
            if (seen.getOrDefault(sort, 0) < 20) {
                System.out.println("too few answers of the sort " + sort + ": " + seen.getOrDefault(sort, 0));
                missing++;
            }
        }
        return missing;
    }

    private static boolean run(int seed, TreeMap<String, Integer> seen) {
        Random random = new Random(seed);
        PackExchange real = new PackExchange();
        Model model = new Model();
        // Some runs lose power often, some never; some stay small so that a talk stays readable.
        int armChance = seed % 4 == 0 ? 0 : 1 + seed % 7;
        int contents = seed % 3 == 0 ? 4 : 40;
        List<String> calls = new ArrayList<>();
        for (int i = 0; i < CALLS; i++) {
            int[] call = choose(random, armChance, contents, model);
            calls.add(text(call));
            int due = answer(null, model, call);
            int got = answer(real, null, call);
            seen.merge(NAMES[call[0]] + " " + Integer.min(due, LARGEST), 1, Integer::sum);
            if (got != due) {
                System.out.println("seed " + seed + ": " + String.join("; ", calls));
                System.out.println("  the last one answered " + got + ", due is " + due);
                return false;
            }
        }
        return true;
    }

    private static final String[] NAMES = {
        "blob", "tree", "commit", "point", "fetch", "push", "arm", "recover", "collect", "up",
        "reference", "holds", "count", "talk", "packed", "packAt", "base", "weight", "verdict"};
    private static final int[] ARGUMENTS = {2, 3, 4, 3, 2, 2, 2, 1, 1, 1, 2, 2, 1, 1, 0, 1, 1, 0, 1};
    private static final int[] CHANCES = {10, 10, 12, 5, 12, 12, 0, 6, 1, 2, 6, 4, 2, 4, 2, 5, 5, 3, 4};

    private static String text(int[] call) {
        StringBuilder text = new StringBuilder(NAMES[call[0]]).append('(');
        for (int i = 1; i <= ARGUMENTS[call[0]]; i++) {
            text.append(i == 1 ? "" : ", ").append(call[i]);
        }
        return text.append(')').toString();
    }

    private static int[] choose(Random random, int armChance, int contents, Model model) {
        int sum = armChance;
        for (int chance : CHANCES) {
            sum += chance;
        }
        int drawn = random.nextInt(sum);
        int method = 0;
        // What a fetch or push left behind is looked at most closely just after it.
        if (model.readsDue > 0) {
            model.readsDue--;
            drawn = sum - 1 - random.nextInt(23);
        }
        while (method < CHANCES.length && drawn >= CHANCES[method] + (method == 6 ? armChance : 0)) {
            drawn -= CHANCES[method] + (method == 6 ? armChance : 0);
            method++;
        }
        int[] call = {method, node(random), 0, 0, 0};
        arguments(random, contents, model, call);
        return call;
    }

    private static void arguments(Random random, int contents, Model model, int[] call) {
        boolean odd = random.nextInt(25) == 0;
        switch (NAMES[call[0]]) {
            case "blob" -> call[2] = content(random, contents);
            case "tree" -> {
                call[2] = object(random, model, call[1], odd ? '?' : 'e');
                call[3] = random.nextInt(4) == 0 ? -1 : object(random, model, call[1], odd ? '?' : 'e');
            }
            case "commit" -> {
                call[2] = odd ? random.nextInt(7) - 2 : random.nextInt(4);
                call[3] = object(random, model, call[1], random.nextInt(25) == 0 ? '?' : 't');
                call[4] = random.nextInt(3) > 0 ? -1 : object(random, model, call[1], random.nextInt(9) == 0 ? '?' : 'c');
            }
            case "point" -> {
                call[2] = odd ? random.nextInt(11) - 2 : random.nextInt(4);
                call[3] = random.nextInt(6) == 0 ? -1 : object(random, model, call[1], random.nextInt(9) == 0 ? '?' : 'c');
            }
            case "fetch", "push" -> {
                call[1] = random.nextInt(30) == 0 ? random.nextInt(6) - 2 : 1 + random.nextInt(2);
                call[2] = odd ? random.nextInt(40) - 10 : random.nextBoolean() ? 1 << random.nextInt(4) : 1 + random.nextInt(15);
            }
            case "arm" -> call[2] = odd ? random.nextInt(110) - 4 : random.nextInt(5) == 0 ? -1 : random.nextInt(14);
            case "recover" -> call[1] = odd ? node(random) : model.aDownNode(call[1]);
            case "reference" -> call[2] = random.nextInt(odd ? 14 : 8) - (odd ? 3 : 0);
            case "holds" -> call[2] = random.nextInt(64) - 2;
            case "talk" -> call[1] = random.nextInt(5) - 1;
            case "packAt", "base" -> call[1] = random.nextInt(Integer.max(3, model.pack.size() + 3)) - 1;
            case "verdict" -> call[1] = random.nextInt(6) - 1;
            default -> { }
        }
    }

    private static int node(Random random) {
        return random.nextInt(30) == 0 ? (random.nextBoolean() ? -1 : 3) : random.nextInt(3);
    }

    /** Contents that differ in a few digits, so that deltas are near the weight of a whole blob. */
    private static int content(Random random, int contents) {
        int small = random.nextInt(contents);
        return random.nextInt(4) == 0 ? small * 0x01010101 : random.nextInt() & random.nextInt() & 0x91111111;
    }

    /** Mostly an object of the right sort (entry, tree, commit) that the node holds; '?' any number. */
    private static int object(Random random, Model model, int node, char sort) {
        boolean anywhere = node < 0 || node > 2 || random.nextInt(12) == 0;
        if (sort != '?') {
            for (int tries = 0; tries < 200; tries++) {
                int n = random.nextInt(60);
                if (n < model.objects.size() && fits(model.objects.get(n).kind, sort)
                        && (anywhere || model.sites[node].held.contains(n))) {
                    return n;
                }
            }
        }
        return random.nextInt(66) - 3;
    }

    private static boolean fits(char kind, char sort) {
        return sort == 'e' ? kind != 'c' : kind == sort;
    }

    private static int answer(PackExchange x, Model m, int[] c) {
        return switch (NAMES[c[0]]) {
            case "blob" -> m == null ? x.blob(c[1], c[2]) : m.blob(c[1], c[2]);
            case "tree" -> m == null ? x.tree(c[1], c[2], c[3]) : m.tree(c[1], c[2], c[3]);
            case "commit" -> m == null ? x.commit(c[1], c[2], c[3], c[4]) : m.commit(c[1], c[2], c[3], c[4]);
            case "point" -> m == null ? x.point(c[1], c[2], c[3]) : m.point(c[1], c[2], c[3]);
            case "fetch" -> m == null ? x.fetch(c[1], c[2]) : m.fetch(c[1], c[2]);
            case "push" -> m == null ? x.push(c[1], c[2]) : m.push(c[1], c[2]);
            case "arm" -> (m == null ? x.arm(c[1], c[2]) : m.arm(c[1], c[2])) ? 1 : 0;
            case "recover" -> m == null ? x.recover(c[1]) : m.recover(c[1]);
            case "collect" -> m == null ? x.collect(c[1]) : m.collect(c[1]);
            case "up" -> (m == null ? x.up(c[1]) : m.up(c[1])) ? 1 : 0;
            case "reference" -> m == null ? x.reference(c[1], c[2]) : m.reference(c[1], c[2]);
            case "holds" -> m == null ? x.holds(c[1], c[2]) : m.holds(c[1], c[2]);
            case "count" -> m == null ? x.count(c[1]) : m.count(c[1]);
            case "talk" -> m == null ? x.talk(c[1]) : m.talk(c[1]);
            case "packed" -> m == null ? x.packed() : m.pack.size();
            case "packAt" -> m == null ? x.packAt(c[1]) : m.packAt(c[1]);
            case "base" -> m == null ? x.base(c[1]) : m.base(c[1]);
            case "weight" -> m == null ? x.weight() : m.weight();
            default -> m == null ? x.verdict(c[1]) : m.verdict(c[1]);
        };
    }

    /** Thrown where a node goes down, so that the call ends there. */
    private static final class PowerEnds extends RuntimeException {
        private static final long serialVersionUID = 1L;
    }

    /** An object: its kind (b, t, c) and its content, or its entries, or its tree and parents. */
    private record Thing(char kind, List<Integer> parts) { }

    private record Update(int reference, Integer value) { }

    private static final class Site {
        boolean up = true;
        int armed = -1;
        TreeSet<Integer> held = new TreeSet<>();
        Integer[] references = new Integer[8];
        List<Update> log = new ArrayList<>();
        boolean sealed = false;

        void write() {
            if (armed == 0) {
                up = false;
                armed = -1;
                throw new PowerEnds();
            }
            armed = armed < 0 ? -1 : armed - 1;
        }

        void writeAll(TreeSet<Integer> objects) {
            for (int object : objects) {
                if (!held.contains(object)) {
                    write();
                    held.add(object);
                }
            }
        }

        void transaction(List<Update> wished) {
            List<Update> updates = new ArrayList<>();
            for (Update u : wished) {
                if (!java.util.Objects.equals(references[u.reference], u.value)) {
                    updates.add(u);
                }
            }
            if (updates.isEmpty()) {
                return;
            }
            for (Update u : updates) {
                write();
                log.add(u);
            }
            write();
            sealed = true;
            carryOut();
        }

        void carryOut() {
            for (Update u : log) {
                write();
                references[u.reference] = u.value;
            }
            empty();
        }

        void empty() {
            write();
            log.clear();
            sealed = false;
        }
    }

    /** The document once more. */
    private static final class Model {
        final List<Thing> objects = new ArrayList<>();
        final Site[] sites = {new Site(), new Site(), new Site()};
        final int[] talk = new int[3];
        int readsDue = 0;
        List<Integer> pack = new ArrayList<>();
        List<Integer> bases = new ArrayList<>();
        final int[] verdicts = new int[4];

        int aDownNode(int otherwise) {
            for (int i = 0; i < 3; i++) {
                if (!sites[i].up) {
                    return i;
                }
            }
            return otherwise;
        }

        private boolean noNode(int node) {
            return node < 0 || node > 2;
        }

        private boolean is(Site site, int object, String kinds) {
            return site.held.contains(object) && kinds.indexOf(objects.get(object).kind) >= 0;
        }

        private int make(Site site, Thing thing) {
            int number = objects.indexOf(thing);
            if (number < 0 && objects.size() == 60) {
                return -3;
            }
            if (number >= 0 && site.held.contains(number)) {
                return number;
            }
            site.write();
            if (number < 0) {
                objects.add(thing);
                number = objects.size() - 1;
            }
            site.held.add(number);
            return number;
        }

        int blob(int node, int content) {
            if (noNode(node)) {
                return -1;
            }
            if (!sites[node].up) {
                return -2;
            }
            try {
                return make(sites[node], new Thing('b', List.of(content)));
            } catch (PowerEnds end) {
                return -2;
            }
        }

        int tree(int node, int first, int second) {
            if (noNode(node)) {
                return -1;
            }
            Site site = sites[node];
            if (!site.up) {
                return -2;
            }
            if (!is(site, first, "bt") || second != -1 && !is(site, second, "bt")) {
                return -1;
            }
            try {
                return make(site, new Thing('t', second == -1 ? List.of(first) : List.of(first, second)));
            } catch (PowerEnds end) {
                return -2;
            }
        }

        int commit(int node, int reference, int tree, int other) {
            if (noNode(node) || reference < 0 || reference > 3) {
                return -1;
            }
            Site site = sites[node];
            if (!site.up) {
                return -2;
            }
            Integer now = site.references[reference];
            if (!is(site, tree, "t") || other != -1 && !is(site, other, "c") || now != null && now == other) {
                return -1;
            }
            List<Integer> parts = new ArrayList<>(List.of(tree));
            if (now != null) {
                parts.add(now);
            }
            if (other != -1) {
                parts.add(other);
            }
            try {
                int number = make(site, new Thing('c', parts));
                if (number >= 0) {
                    site.transaction(List.of(new Update(reference, number)));
                }
                return number;
            } catch (PowerEnds end) {
                return -2;
            }
        }

        int point(int node, int reference, int commit) {
            if (noNode(node) || reference < 0 || reference > 3) {
                return -1;
            }
            Site site = sites[node];
            if (!site.up) {
                return -2;
            }
            if (commit != -1 && !is(site, commit, "c")) {
                return -1;
            }
            Integer value = commit == -1 ? null : Integer.valueOf(commit);
            if (java.util.Objects.equals(site.references[reference], value)) {
                return 0;
            }
            try {
                site.transaction(List.of(new Update(reference, value)));
                return 1;
            } catch (PowerEnds end) {
                return -2;
            }
        }

        private void reach(int object, TreeSet<Integer> into) {
            if (into.add(object) && objects.get(object).kind != 'b') {
                for (int part : objects.get(object).parts) {
                    reach(part, into);
                }
            }
        }

        private TreeSet<Integer> reachOf(Iterable<Integer> starts) {
            TreeSet<Integer> reached = new TreeSet<>();
            for (Integer start : starts) {
                if (start != null) {
                    reach(start, reached);
                }
            }
            return reached;
        }

        private boolean chosen(int set, int r) {
            return (set / (1 << r)) % 2 == 1;
        }

        int fetch(int client, int set) {
            if (client < 1 || client > 2 || set < 1 || set > 15) {
                return -1;
            }
            Site server = sites[0];
            Site own = sites[client];
            if (!own.up || !server.up) {
                return -2;
            }
            TreeSet<Integer> wants = new TreeSet<>();
            List<Update> updates = new ArrayList<>();
            for (int r = 0; r < 4; r++) {
                Integer value = server.references[r];
                if (chosen(set, r) && value != null) {
                    updates.add(new Update(4 + r, value));
                    if (!own.held.contains(value)) {
                        wants.add(value);
                    }
                }
            }
            TreeSet<Integer> acknowledged = speak(own, server, wants);
            TreeSet<Integer> members = reachOf(wants);
            members.removeAll(reachOf(acknowledged));
            lay(members);
            try {
                own.writeAll(members);
                own.transaction(updates);
                return members.size();
            } catch (PowerEnds end) {
                return -2;
            }
        }

        private TreeSet<Integer> speak(Site own, Site server, TreeSet<Integer> wants) {
            TreeSet<Integer> acknowledged = new TreeSet<>();
            TreeSet<Integer> sent = new TreeSet<>();
            int rounds = 0;
            boolean more = !wants.isEmpty();
            while (more) {
                TreeSet<Integer> known = reachOf(acknowledged);
                List<Integer> haves = new ArrayList<>();
                for (int candidate : reachOf(java.util.Arrays.asList(own.references)).descendingSet()) {
                    if (objects.get(candidate).kind == 'c' && !sent.contains(candidate)
                            && !known.contains(candidate) && haves.size() < 3) {
                        haves.add(candidate);
                    }
                }
                if (haves.isEmpty()) {
                    break;
                }
                rounds++;
                sent.addAll(haves);
                for (int have : haves) {
                    if (server.held.contains(have)) {
                        acknowledged.add(have);
                    }
                }
                more = false;
                for (int want : wants) {
                    TreeSet<Integer> met = reachOf(List.of(want));
                    met.retainAll(acknowledged);
                    more |= met.isEmpty();
                }
            }
            talk[0] = sent.size();
            talk[1] = acknowledged.size();
            talk[2] = rounds;
            return acknowledged;
        }

        int push(int client, int set) {
            if (client < 1 || client > 2 || set < 1 || set > 15) {
                return -1;
            }
            Site server = sites[0];
            Site own = sites[client];
            if (!own.up || !server.up) {
                return -2;
            }
            List<Integer> news = new ArrayList<>();
            for (int r = 0; r < 4; r++) {
                if (chosen(set, r)) {
                    if (own.references[r] == null) {
                        return -1;
                    }
                    news.add(own.references[r]);
                }
            }
            boolean refused = false;
            for (int r = 0; r < 4; r++) {
                verdicts[r] = chosen(set, r) ? judge(own, server, r) : 0;
                refused |= verdicts[r] > 1;
            }
            TreeSet<Integer> members = new TreeSet<>();
            if (refused) {
                lay(members);
                return 0;
            }
            members.addAll(reachOf(news));
            for (int r = 0; r < 4; r++) {
                if (server.references[r] != null && own.held.contains(server.references[r])) {
                    members.removeAll(reachOf(List.of(server.references[r])));
                }
            }
            lay(members);
            try {
                server.writeAll(members);
                server.transaction(moves(own, set, 0));
                own.transaction(moves(own, set, 4));
                return 1;
            } catch (PowerEnds end) {
                return -2;
            }
        }

        private int judge(Site own, Site server, int r) {
            Integer old = own.references[4 + r];
            if (!java.util.Objects.equals(old, server.references[r])) {
                return 2;
            }
            return old == null || reachOf(List.of(own.references[r])).contains(old) ? 1 : 3;
        }

        private List<Update> moves(Site own, int set, int shift) {
            List<Update> updates = new ArrayList<>();
            for (int r = 0; r < 4; r++) {
                if (chosen(set, r)) {
                    updates.add(new Update(r + shift, own.references[r]));
                }
            }
            return updates;
        }

        private void lay(TreeSet<Integer> members) {
            pack = new ArrayList<>();
            for (char kind : "ctb".toCharArray()) {
                for (int object : members.descendingSet()) {
                    if (objects.get(object).kind == kind) {
                        pack.add(object);
                    }
                }
            }
            bases = new ArrayList<>();
            for (int place = 0; place < pack.size(); place++) {
                bases.add(bestBase(place));
            }
            readsDue = Integer.min(10, pack.size());
        }

        boolean arm(int node, int n) {
            if (noNode(node) || n < -1 || n > 100) {
                return false;
            }
            sites[node].armed = n;
            return true;
        }

        int recover(int node) {
            if (noNode(node) || sites[node].up) {
                return -1;
            }
            Site site = sites[node];
            int updates = site.sealed ? site.log.size() : 0;
            try {
                if (site.sealed) {
                    site.carryOut();
                } else if (!site.log.isEmpty()) {
                    site.empty();
                }
            } catch (PowerEnds end) {
                return -2;
            }
            site.up = true;
            return updates;
        }

        int collect(int node) {
            if (noNode(node)) {
                return -1;
            }
            if (!sites[node].up) {
                return -2;
            }
            int before = sites[node].held.size();
            sites[node].held.retainAll(reachOf(java.util.Arrays.asList(sites[node].references)));
            return before - sites[node].held.size();
        }

        boolean up(int node) {
            return !noNode(node) && sites[node].up;
        }

        int reference(int node, int reference) {
            if (noNode(node) || reference < 0 || reference > 7) {
                return -1;
            }
            if (!sites[node].up) {
                return -2;
            }
            return sites[node].references[reference] == null ? -4 : sites[node].references[reference];
        }

        int holds(int node, int object) {
            if (noNode(node)) {
                return -1;
            }
            return !sites[node].up ? -2 : sites[node].held.contains(object) ? 1 : 0;
        }

        int count(int node) {
            if (noNode(node)) {
                return -1;
            }
            return !sites[node].up ? -2 : sites[node].held.size();
        }

        int talk(int which) {
            return which < 0 || which > 2 ? -1 : talk[which];
        }

        int packAt(int place) {
            return place < 0 || place >= pack.size() ? -4 : pack.get(place);
        }

        private boolean isBlob(int place) {
            return place >= 0 && place < pack.size() && objects.get(pack.get(place)).kind == 'b';
        }

        int base(int place) {
            return place < 0 || place >= pack.size() ? -4 : bases.get(place);
        }

        private int bestBase(int place) {
            if (!isBlob(place)) {
                return -4;
            }
            int best = -4;
            for (int before = Integer.max(0, place - 3); before < place; before++) {
                if (isBlob(before) && chain(before) < 2 && delta(before, place) < 8
                        && (best == -4 || delta(before, place) <= delta(best, place))) {
                    best = before;
                }
            }
            return best;
        }

        private int chain(int place) {
            int base = base(place);
            return base == -4 ? 0 : 1 + chain(base);
        }

        private int delta(int one, int other) {
            String a = String.format("%08x", objects.get(pack.get(one)).parts.get(0));
            String b = String.format("%08x", objects.get(pack.get(other)).parts.get(0));
            int differ = 0;
            for (int i = 0; i < 8; i++) {
                differ += a.charAt(i) == b.charAt(i) ? 0 : 1;
            }
            return 2 + differ;
        }

        int weight() {
            int sum = 0;
            for (int place = 0; place < pack.size(); place++) {
                if (!isBlob(place)) {
                    sum += 1 + objects.get(pack.get(place)).parts.size();
                } else {
                    sum += base(place) == -4 ? 8 : delta(base(place), place);
                }
            }
            return sum;
        }

        int verdict(int r) {
            return r < 0 || r > 3 ? 0 : verdicts[r];
        }
    }
}
