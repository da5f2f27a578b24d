/** Runs of calls that many tests begin with; every group is led by its first node. */
final class Steps {
    private Steps() {
    }

    static int leaderOf(int group) {
        return 3 * group;
    }

    /** The leader copies all that it has to the second node, so that both have it as known. */
    static void spread(ShardGroups x, int group) {
        int leader = leaderOf(group);
        for (int i = 0; i < 80 && x.known(leader + 1) < x.length(leader); i++) {
            x.ship(leader, leader + 1);
        }
    }

    /** An object of which the groups 0 .. last have leaders, whose first entry is known. */
    static ShardGroups led(int last) {
        ShardGroups x = new ShardGroups();
        for (int group = 0; group <= last; group++) {
            x.elect(leaderOf(group));
            spread(x, group);
        }
        return x;
    }

    static void change(ShardGroups x, int kind, int a, int b) {
        x.change(0, kind, a, b);
        spread(x, 0);
    }

    static void poll(ShardGroups x, int group) {
        x.poll(leaderOf(group), 0);
        spread(x, group);
    }

    static void request(ShardGroups x, int group, int client, int number, int kind, int key, int value) {
        x.request(leaderOf(group), client, number, kind, key, value);
        spread(x, group);
    }

    static void pull(ShardGroups x, int group, int shard, int other) {
        x.pull(leaderOf(group), shard, leaderOf(other));
        spread(x, group);
    }

    static void confirm(ShardGroups x, int group, int shard, int other) {
        x.confirm(leaderOf(group), shard, leaderOf(other));
        spread(x, group);
    }

    /** Group 1 serves all shards, in configuration 1. */
    static ShardGroups serving() {
        ShardGroups x = led(3);
        change(x, 0, 1, 0);
        poll(x, 1);
        return x;
    }

    /** Configuration 2: the shards 0 .. 3 are SENDING in group 1, and PULLING in group 2. */
    static ShardGroups moving() {
        ShardGroups x = serving();
        request(x, 1, 0, 4, 1, 0, 55);
        request(x, 1, 2, 9, 2, 8, 7);
        change(x, 0, 2, 0);
        poll(x, 1);
        poll(x, 2);
        poll(x, 2);
        return x;
    }

    /** Writes entries of one kind, which change little, until there is no more room. */
    static void fill(ShardGroups x, int node) {
        int answer = 0;
        for (int i = 0; i < 80 && answer >= 0 && answer < 80; i++) {
            answer = node < 3 ? x.change(node, 1, 3, 0) : x.request(node, 0, 1, 0, 0, 0);
        }
    }

    /** Copies all that a leader has to another node of its group; it ends when that one is down, too. */
    static void copy(ShardGroups x, int leader, int to) {
        int length = x.length(leader);
        int answer = 0;
        for (int i = 0; i < 80 && answer >= 0 && answer < length; i++) {
            answer = x.ship(leader, to);
        }
    }

    /** Every leader copies all to both other nodes, so that what is in its log shows in their states. */
    static void copyAll(ShardGroups x) {
        for (int node = 0; node < 12; node++) {
            if (x.term(node) > 1000) {
                copy(x, node, node / 3 * 3 + (node + 1) % 3);
                copy(x, node, node / 3 * 3 + (node + 2) % 3);
            }
        }
    }
}
