/** Promises 1 to 3 and 11 to 13: a new object, crash, recover, length, known, term. */
public final class NodesTest {
    private static final Dues DUES = new Dues();

    public static void main(String[] args) {
        testNewObject();
        testCrashAndRecover();
        testWhatSurvivesACrash();
        testReadingNodes();
        DUES.end();
    }

    private static void testNewObject() {
        ShardGroups x = new ShardGroups();
        for (int node = 0; node < 12; node++) {
            DUES.all("new node " + node, 0, x.length(node), x.known(node), x.term(node), x.configuration(node));
            DUES.due("new node is up", x.recover(node), false);
            for (int shard = 0; shard < 8; shard++) {
                DUES.due("owner", x.owner(node, 0, shard), node < 3 ? 0 : ShardGroups.NONE);
                DUES.due("condition", x.condition(node, shard), node < 3 ? ShardGroups.NONE : 0);
            }
            DUES.due("value", x.value(node, node), ShardGroups.NONE);
            DUES.due("ship", x.ship(node, node / 3 * 3 + (node + 1) % 3), ShardGroups.FOLLOWS);
        }
        ShardGroups y = new ShardGroups();
        y.elect(0);
        DUES.due("objects share nothing", x.term(0), 0);
    }

    private static void testCrashAndRecover() {
        ShardGroups x = new ShardGroups();
        for (int node = 0; node < 12; node++) {
            DUES.due("recover of one that is up", x.recover(node), false);
            DUES.due("crash", x.crash(node), true);
            DUES.due("crash again", x.crash(node), false);
            DUES.due("recover", x.recover(node), true);
            DUES.due("recover again", x.recover(node), false);
            DUES.due("crash once more", x.crash(node), true);
        }
        int[] none = {-1, 12, 13, Integer.MIN_VALUE, Integer.MAX_VALUE};
        for (int node : none) {
            DUES.due("crash of " + node, x.crash(node), false);
            DUES.due("recover of " + node, x.recover(node), false);
        }
    }

    private static void testWhatSurvivesACrash() {
        ShardGroups x = Steps.moving();
        int length = x.length(3);
        x.crash(3);
        DUES.due("length", x.length(3), length);
        DUES.due("known", x.known(3), length);
        DUES.due("term, without leading", x.term(3), 3);
        DUES.due("configuration", x.configuration(3), 2);
        DUES.due("condition", x.condition(3, 0), 3);
        DUES.due("value", x.value(3, 0), 55);
        DUES.due("latest", x.latest(3, 2, 8), 9);
        DUES.due("answer", x.answer(3, 2, 8), 7);
        x.recover(3);
        DUES.due("leads no more", x.term(3), 3);
        DUES.due("ship of one that does not lead", x.ship(3, 4), ShardGroups.FOLLOWS);
        DUES.due("length afterwards", x.length(3), length);
        DUES.due("owners of the service", x.owner(0, 2, 0), 2);
        x.crash(0);
        DUES.due("owners of a node that is down", x.owner(0, 2, 0), 2);
        DUES.due("configuration of a node that is down", x.configuration(0), 2);
    }

    private static void testReadingNodes() {
        ShardGroups x = new ShardGroups();
        x.elect(1);
        x.change(1, 0, 1, 0);
        x.change(1, 0, 2, 0);
        DUES.due("length of the leader", x.length(1), 3);
        DUES.due("known of the leader", x.known(1), 0);
        DUES.due("term of the leader", x.term(1), 1001);
        DUES.due("term of one that granted", x.term(0), 1);
        x.ship(1, 0);
        x.ship(1, 0);
        DUES.due("length of the other one", x.length(0), 2);
        DUES.due("known of the other one", x.known(0), 2);
        DUES.due("known of the leader then", x.known(1), 2);
        DUES.due("known of the third one", x.known(2), 0);
        int[] none = {-1, 12, -12, Integer.MIN_VALUE, Integer.MAX_VALUE};
        for (int node : none) {
            DUES.all("node " + node, ShardGroups.NONE, x.length(node), x.known(node), x.term(node),
                    x.configuration(node));
        }
    }
}
