/**
 * A store of keys that is cut into shards, which move between groups of replicas as a service says.
 * The calls only test their arguments and their rights; what a node has, and what an entry does to
 * it, stands in the classes inside.
 */
public final class ShardGroups {
    public static final int NONE = -1;
    public static final int FOLLOWS = -2;
    public static final int FULL = -3;
    public static final int EARLY = -4;
    public static final int STALE = -5;

    private static final int GROUPS = 4;
    private static final int GROUP_SIZE = 3;
    private static final int MAJORITY = 2;
    private static final int NODES = GROUPS * GROUP_SIZE;
    private static final int SHARDS = 8;
    private static final int KEYS = 16;
    private static final int CLIENTS = 3;
    private static final int VALUES = 1000;
    private static final int LAST_NUMBER = 999;
    private static final int LOG_LIMIT = 80;
    private static final int CONFIGURATION_LIMIT = 16;
    private static final int LEADS_MARK = 1000;

    private static final int JOIN = 0;
    private static final int LEAVE = 1;
    private static final int MOVE = 2;

    private static final int GET = 0;
    private static final int PUT = 1;
    private static final int ADD = 2;

    private static final int ABSENT = 0;
    private static final int SERVING = 1;
    private static final int PULLING = 2;
    private static final int SENDING = 3;

    private final Node[] nodes = new Node[NODES];
    private final ServiceNode[] services = new ServiceNode[GROUP_SIZE];
    private final StoreNode[] stores = new StoreNode[NODES - GROUP_SIZE];

    public ShardGroups() {
        Configuration first = new Configuration();
        for (int i = 0; i < services.length; i++) {
            services[i] = new ServiceNode(first);
            nodes[i] = services[i];
        }
        for (int i = 0; i < stores.length; i++) {
            stores[i] = new StoreNode(groupOf(GROUP_SIZE + i), first);
            nodes[GROUP_SIZE + i] = stores[i];
        }
    }

    public boolean crash(int node) {
        Node n = upNode(node);
        if (n == null) {
            return false;
        }
        n.up = false;
        n.leads = false;
        return true;
    }

    public boolean recover(int node) {
        Node n = anyNode(node);
        if (n == null || n.up) {
            return false;
        }
        n.up = true;
        return true;
    }

    public int elect(int node) {
        Node n = upNode(node);
        if (n == null) {
            return NONE;
        }
        int asked = n.term + 1 + Math.floorMod(node - n.term - 1, GROUP_SIZE);
        if (countGrants(n, groupOf(node), asked) < MAJORITY) {
            return 0;
        }
        n.leads = true;
        n.write(new Entry(asked));
        return asked;
    }

    public int ship(int from, int to) {
        Node leader = upNode(from);
        Node other = upNode(to);
        if (leader == null || other == null || from == to || groupOf(from) != groupOf(to)) {
            return NONE;
        }
        if (!leader.leads) {
            return FOLLOWS;
        }
        if (other.term > leader.term) {
            leader.leads = false;
            return STALE;
        }
        other.takeTerm(leader.term);
        other.copyNextFrom(leader);
        leader.learn(countAgreed(leader, groupOf(from)));
        other.learn(leader.known);
        return other.length;
    }

    public int change(int node, int kind, int a, int b) {
        ServiceNode n = upService(node);
        if (n == null || !isChange(kind, a, b)) {
            return NONE;
        }
        if (!n.leads) {
            return FOLLOWS;
        }
        return n.write(new Change(n.term, kind, a, b));
    }

    public int request(int node, int client, int number, int kind, int key, int value) {
        StoreNode n = upStore(node);
        if (n == null || !isClient(client) || !isKey(key) || number < 1 || number > LAST_NUMBER
                || kind < GET || kind > ADD || value < 0 || value >= VALUES) {
            return NONE;
        }
        if (!n.leads) {
            return FOLLOWS;
        }
        return n.write(new Request(n.term, client, number, kind, key, value));
    }

    public int poll(int node, int service) {
        StoreNode n = upStore(node);
        ServiceNode asked = upService(service);
        if (n == null || asked == null) {
            return NONE;
        }
        if (!n.leads) {
            return FOLLOWS;
        }
        int next = n.number + 1;
        if (!n.isSettled() || next > asked.last) {
            return EARLY;
        }
        return n.write(new Configure(n.term, next, asked.configurations[next]));
    }

    public int pull(int node, int shard, int other) {
        StoreNode n = upStore(node);
        StoreNode sender = upStore(other);
        if (n == null || sender == null || !isShard(shard)) {
            return NONE;
        }
        if (!n.leads) {
            return FOLLOWS;
        }
        if (n.shards[shard].condition != PULLING || sender.shards[shard].condition != SENDING
                || n.number != sender.number) {
            return EARLY;
        }
        return n.write(new Insert(n.term, shard, n.number, sender.shards[shard]));
    }

    public int confirm(int node, int shard, int other) {
        StoreNode n = upStore(node);
        StoreNode receiver = upStore(other);
        if (n == null || receiver == null || !isShard(shard)) {
            return NONE;
        }
        if (!n.leads) {
            return FOLLOWS;
        }
        if (n.shards[shard].condition != SENDING || n.current.owners[shard] != receiver.group
                || !receiver.hasReceived(shard, n.number)) {
            return EARLY;
        }
        return n.write(new Delete(n.term, shard, n.number));
    }

    public int length(int node) {
        Node n = anyNode(node);
        return n == null ? NONE : n.length;
    }

    public int known(int node) {
        Node n = anyNode(node);
        return n == null ? NONE : n.known;
    }

    public int term(int node) {
        Node n = anyNode(node);
        if (n == null) {
            return NONE;
        }
        return n.leads ? n.term + LEADS_MARK : n.term;
    }

    public int configuration(int node) {
        Node n = anyNode(node);
        return n == null ? NONE : n.lastNumber();
    }

    public int owner(int node, int c, int shard) {
        ServiceNode n = anyService(node);
        if (n == null || c < 0 || c > n.last || !isShard(shard)) {
            return NONE;
        }
        return n.configurations[c].owners[shard];
    }

    public int condition(int node, int shard) {
        StoreNode n = anyStore(node);
        if (n == null || !isShard(shard)) {
            return NONE;
        }
        return n.shards[shard].condition;
    }

    public int value(int node, int key) {
        Shard held = heldShard(node, key);
        return held == null ? NONE : held.values[placeInShard(key)];
    }

    public int latest(int node, int client, int key) {
        Shard held = heldShard(node, key);
        return held == null || !isClient(client) ? NONE : held.latest[client];
    }

    public int answer(int node, int client, int key) {
        Shard held = heldShard(node, key);
        return held == null || !isClient(client) ? NONE : held.answers[client];
    }

    private static int groupOf(int node) {
        return node / GROUP_SIZE;
    }

    private static int shardOf(int key) {
        return key % SHARDS;
    }

    private static int placeInShard(int key) {
        return key / SHARDS;
    }

    private static boolean isShard(int shard) {
        return shard >= 0 && shard < SHARDS;
    }

    private static boolean isKey(int key) {
        return key >= 0 && key < KEYS;
    }

    private static boolean isClient(int client) {
        return client >= 0 && client < CLIENTS;
    }

    /** The service is a group too, but shards are never its own. */
    private static boolean isOwningGroup(int group) {
        return group >= 1 && group < GROUPS;
    }

    private static boolean isChange(int kind, int a, int b) {
        if (kind == MOVE) {
            return isShard(a) && isOwningGroup(b);
        }
        return (kind == JOIN || kind == LEAVE) && isOwningGroup(a);
    }

    private Node anyNode(int node) {
        return node >= 0 && node < NODES ? nodes[node] : null;
    }

    private ServiceNode anyService(int node) {
        return node >= 0 && node < GROUP_SIZE ? services[node] : null;
    }

    private StoreNode anyStore(int node) {
        return node >= GROUP_SIZE && node < NODES ? stores[node - GROUP_SIZE] : null;
    }

    private Node upNode(int node) {
        Node n = anyNode(node);
        return n != null && n.up ? n : null;
    }

    private ServiceNode upService(int node) {
        ServiceNode n = anyService(node);
        return n != null && n.up ? n : null;
    }

    private StoreNode upStore(int node) {
        StoreNode n = anyStore(node);
        return n != null && n.up ? n : null;
    }

    /** The shard of a key in the state of a node, or null when there is none that has values. */
    private Shard heldShard(int node, int key) {
        StoreNode n = anyStore(node);
        if (n == null || !isKey(key)) {
            return null;
        }
        Shard shard = n.shards[shardOf(key)];
        return shard.hasContents() ? shard : null;
    }

    private int countGrants(Node asking, int group, int asked) {
        int grants = 0;
        for (int i = 0; i < GROUP_SIZE; i++) {
            if (nodes[group * GROUP_SIZE + i].grants(asking, asked)) {
                grants++;
            }
        }
        return grants;
    }

    /**
     * How many entries the leader may have as known. Only an entry of its own term counts: one of an
     * older term can be in two logs and still be cut by a later leader.
     */
    private int countAgreed(Node leader, int group) {
        for (int place = leader.length - 1; place >= 0; place--) {
            if (leader.hasEntry(place, leader.term)
                    && countCopies(group, place, leader.term) >= MAJORITY) {
                return place + 1;
            }
        }
        return 0;
    }

    private int countCopies(int group, int place, int term) {
        int copies = 0;
        for (int i = 0; i < GROUP_SIZE; i++) {
            if (nodes[group * GROUP_SIZE + i].hasEntry(place, term)) {
                copies++;
            }
        }
        return copies;
    }

    /** A replica: its log is the same matter in every group, its state is not. */
    private abstract static class Node {
        boolean up = true;
        boolean leads;
        int term;
        int length;
        int known;
        final Entry[] log = new Entry[LOG_LIMIT];

        abstract void carryOut(Entry entry);

        abstract int lastNumber();

        void takeTerm(int given) {
            if (given > term) {
                term = given;
                leads = false;
            }
        }

        boolean grants(Node asking, int asked) {
            if (!up || term >= asked || asking.isBehind(this)) {
                return false;
            }
            takeTerm(asked);
            return true;
        }

        boolean isBehind(Node other) {
            int mine = lastTerm();
            int others = other.lastTerm();
            return mine < others || (mine == others && length < other.length);
        }

        int lastTerm() {
            return length == 0 ? 0 : log[length - 1].term;
        }

        boolean hasEntry(int place, int ofTerm) {
            return place < length && log[place].term == ofTerm;
        }

        int write(Entry entry) {
            if (length == LOG_LIMIT) {
                return FULL;
            }
            log[length] = entry;
            length++;
            return length;
        }

        void copyNextFrom(Node leader) {
            length = countSame(leader);
            if (length < leader.length) {
                write(leader.log[length]);
            }
        }

        int countSame(Node other) {
            int limit = Math.min(length, other.length);
            int same = 0;
            while (same < limit && log[same].term == other.log[same].term) {
                same++;
            }
            return same;
        }

        /** What is known is never cut again, so the state only ever goes on from where it is. */
        void learn(int count) {
            int end = Math.min(count, length);
            for (int place = known; place < end; place++) {
                carryOut(log[place]);
            }
            known = Math.max(known, end);
        }
    }

    /** A node of the service: its state is a row of configurations. */
    private static final class ServiceNode extends Node {
        final Configuration[] configurations = new Configuration[CONFIGURATION_LIMIT];
        int last;

        ServiceNode(Configuration first) {
            configurations[0] = first;
        }

        void carryOut(Entry entry) {
            entry.changeService(this);
        }

        int lastNumber() {
            return last;
        }

        boolean isComplete() {
            return last + 1 == CONFIGURATION_LIMIT;
        }

        void add(Configuration next) {
            last++;
            configurations[last] = next;
        }
    }

    /** A node of another group: its state is a configuration and its shards. */
    private static final class StoreNode extends Node {
        final int group;
        int number;
        Configuration current;
        final Shard[] shards = new Shard[SHARDS];

        StoreNode(int group, Configuration first) {
            this.group = group;
            this.current = first;
            for (int i = 0; i < SHARDS; i++) {
                shards[i] = new Shard();
            }
        }

        void carryOut(Entry entry) {
            entry.changeStore(this);
        }

        int lastNumber() {
            return number;
        }

        boolean isSettled() {
            for (Shard shard : shards) {
                if (shard.condition == PULLING || shard.condition == SENDING) {
                    return false;
                }
            }
            return true;
        }

        /** A node that is further on could not have gone there without having had the shard. */
        boolean hasReceived(int shard, int c) {
            return number > c || (number == c && shards[shard].condition == SERVING);
        }

        void adopt(int c, Configuration next) {
            if (c != number + 1 || !isSettled()) {
                return;
            }
            for (int i = 0; i < SHARDS; i++) {
                handOver(shards[i], current.owners[i], next.owners[i]);
            }
            number = c;
            current = next;
        }

        void handOver(Shard shard, int before, int now) {
            if (now == group && before == 0) {
                shard.clear();
                shard.condition = SERVING;
            } else if (now == group && before != group) {
                shard.condition = PULLING;
            } else if (now != group && before == group) {
                shard.condition = SENDING;
            }
        }
    }

    /** Members and owners; it is never changed once it is in a state, so that nodes can share it. */
    private static final class Configuration {
        final boolean[] members = new boolean[GROUPS];
        final int[] owners = new int[SHARDS];
        final int[] owned = new int[GROUPS];

        Configuration() {
            owned[0] = SHARDS;
        }

        Configuration(Configuration before) {
            System.arraycopy(before.members, 0, members, 0, GROUPS);
            System.arraycopy(before.owners, 0, owners, 0, SHARDS);
            System.arraycopy(before.owned, 0, owned, 0, GROUPS);
        }

        int countMembers() {
            int count = 0;
            for (boolean member : members) {
                if (member) {
                    count++;
                }
            }
            return count;
        }

        void join(int group) {
            members[group] = true;
            if (countMembers() == 1) {
                for (int i = 0; i < SHARDS; i++) {
                    give(i, group);
                }
            }
            balance();
        }

        void leave(int group) {
            members[group] = false;
            for (int i = 0; i < SHARDS; i++) {
                if (owners[i] == group) {
                    give(i, fewest());
                }
            }
            balance();
        }

        void give(int shard, int group) {
            owned[owners[shard]]--;
            owners[shard] = group;
            owned[group]++;
        }

        /** Each round brings two members nearer to each other, so the bound is never reached. */
        private void balance() {
            for (int round = 0; round < SHARDS * SHARDS; round++) {
                int most = most();
                int fewest = fewest();
                if (owned[most] - owned[fewest] < 2) {
                    return;
                }
                give(leastShardOf(most), fewest);
            }
        }

        private int most() {
            int found = 0;
            for (int g = 1; g < GROUPS; g++) {
                if (members[g] && (found == 0 || owned[g] > owned[found])) {
                    found = g;
                }
            }
            return found;
        }

        private int fewest() {
            int found = 0;
            for (int g = 1; g < GROUPS; g++) {
                if (members[g] && (found == 0 || owned[g] < owned[found])) {
                    found = g;
                }
            }
            return found;
        }

        private int leastShardOf(int group) {
            int shard = 0;
            while (shard < SHARDS - 1 && owners[shard] != group) {
                shard++;
            }
            return shard;
        }
    }

    /** A shard in the state of one node; what its rows hold counts only when it has contents. */
    private static final class Shard {
        int condition = ABSENT;
        final int[] values = new int[KEYS / SHARDS];
        final int[] latest = new int[CLIENTS];
        final int[] answers = new int[CLIENTS];

        boolean hasContents() {
            return condition == SERVING || condition == SENDING;
        }

        void clear() {
            for (int i = 0; i < values.length; i++) {
                values[i] = 0;
            }
            for (int i = 0; i < CLIENTS; i++) {
                latest[i] = 0;
                answers[i] = 0;
            }
        }

        void copyContents(Shard from) {
            System.arraycopy(from.values, 0, values, 0, values.length);
            System.arraycopy(from.latest, 0, latest, 0, CLIENTS);
            System.arraycopy(from.answers, 0, answers, 0, CLIENTS);
        }

        void serve(Request asked) {
            if (condition != SERVING || asked.number <= latest[asked.client]) {
                return;
            }
            int place = placeInShard(asked.key);
            if (asked.kind == PUT) {
                values[place] = asked.value;
            } else if (asked.kind == ADD) {
                values[place] = (values[place] + asked.value) % VALUES;
            }
            latest[asked.client] = asked.number;
            answers[asked.client] = values[place];
        }
    }

    /** An entry of a log; one that is of no other kind says NOTHING. */
    private static class Entry {
        final int term;

        Entry(int term) {
            this.term = term;
        }

        void changeService(ServiceNode node) {
        }

        void changeStore(StoreNode node) {
        }
    }

    private static final class Change extends Entry {
        final int kind;
        final int a;
        final int b;

        Change(int term, int kind, int a, int b) {
            super(term);
            this.kind = kind;
            this.a = a;
            this.b = b;
        }

        void changeService(ServiceNode node) {
            Configuration before = node.configurations[node.last];
            if (node.isComplete() || !isAllowed(before)) {
                return;
            }
            Configuration next = new Configuration(before);
            if (kind == JOIN) {
                next.join(a);
            } else if (kind == LEAVE) {
                next.leave(a);
            } else {
                next.give(a, b);
            }
            node.add(next);
        }

        private boolean isAllowed(Configuration before) {
            if (kind == JOIN) {
                return !before.members[a];
            }
            if (kind == LEAVE) {
                return before.members[a] && before.countMembers() > 1;
            }
            return before.members[b];
        }
    }

    private static final class Configure extends Entry {
        final int c;
        final Configuration next;

        Configure(int term, int c, Configuration next) {
            super(term);
            this.c = c;
            this.next = next;
        }

        void changeStore(StoreNode node) {
            node.adopt(c, next);
        }
    }

    private static final class Request extends Entry {
        final int client;
        final int number;
        final int kind;
        final int key;
        final int value;

        Request(int term, int client, int number, int kind, int key, int value) {
            super(term);
            this.client = client;
            this.number = number;
            this.kind = kind;
            this.key = key;
            this.value = value;
        }

        void changeStore(StoreNode node) {
            node.shards[shardOf(key)].serve(this);
        }
    }

    private static final class Insert extends Entry {
        final int shard;
        final int c;
        final Shard contents = new Shard();

        /** Copies, for the sender's rows are used again when the shard comes back to it. */
        Insert(int term, int shard, int c, Shard sent) {
            super(term);
            this.shard = shard;
            this.c = c;
            contents.copyContents(sent);
        }

        void changeStore(StoreNode node) {
            Shard mine = node.shards[shard];
            if (mine.condition == PULLING && node.number == c) {
                mine.copyContents(contents);
                mine.condition = SERVING;
            }
        }
    }

    private static final class Delete extends Entry {
        final int shard;
        final int c;

        Delete(int term, int shard, int c) {
            super(term);
            this.shard = shard;
            this.c = c;
        }

        void changeStore(StoreNode node) {
            Shard mine = node.shards[shard];
            if (mine.condition == SENDING && node.number == c) {
                mine.condition = ABSENT;
            }
        }
    }
}
