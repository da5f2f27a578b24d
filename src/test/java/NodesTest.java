/** Promises 1 to 3 and 11 to 13: a new object, crash, recover, length, known, term. */
public final class NodesTest {
    private static final Dues DUES = new Dues();

    public static void main(String[] args) {
        testNewObject();
        testCrashAndRecover();
        testWhatSurvivesACrash();
        testTermSurvivesACrash();
        testUnknownEntriesSurviveACrash();
        testStateGoesOnAfterACrash();
        testEveryLeaderLeadsNoMore();
        testRefusedCallsChangeNothing();
        testReadingNodes();
        DUES.end();
    }

    private static void testNewObject() {
        ShardGroups x = new ShardGroups();
        for (int node = 0; node < 12; node++) {
            DUES.all("new node " + node, 0, x.length(node), x.known(node), x.term(node), x.configuration(node));
            DUES.due("new node is up", x.recover(node), false);
            for (int shard = 0; shard < 8; shard++) {
                DUES.due("owner", x.owner(node, 0, shard), node < 3 ? 0 : ShardGroups.NONE);
                DUES.due("condition", x.condition(node, shard), node < 3 ? ShardGroups.NONE : 0);
            }
            DUES.due("value", x.value(node, node), ShardGroups.NONE);
            DUES.due("ship", x.ship(node, node / 3 * 3 + (node + 1) % 3), ShardGroups.FOLLOWS);
        }
        ShardGroups y = new ShardGroups();
        y.elect(0);
        DUES.due("objects share nothing", x.term(0), 0);
    }

    private static void testCrashAndRecover() {
        ShardGroups x = new ShardGroups();
        for (int node = 0; node < 12; node++) {
            DUES.due("recover of one that is up", x.recover(node), false);
            DUES.due("crash", x.crash(node), true);
            DUES.due("crash again", x.crash(node), false);
            DUES.due("recover", x.recover(node), true);
            DUES.due("recover again", x.recover(node), false);
            DUES.due("crash once more", x.crash(node), true);
        }
        int[] none = {-1, 12, 13, Integer.MIN_VALUE, Integer.MAX_VALUE};
        for (int node : none) {
            DUES.due("crash of " + node, x.crash(node), false);
            DUES.due("recover of " + node, x.recover(node), false);
        }
    }

    private static void testWhatSurvivesACrash() {
        ShardGroups x = Steps.moving();
        int length = x.length(3);
        x.crash(3);
        DUES.due("length", x.length(3), length);
        DUES.due("known", x.known(3), length);
        DUES.due("term, without leading", x.term(3), 3);
        DUES.due("configuration", x.configuration(3), 2);
        DUES.due("condition", x.condition(3, 0), 3);
        DUES.due("value", x.value(3, 0), 55);
        DUES.due("latest", x.latest(3, 2, 8), 9);
        DUES.due("answer", x.answer(3, 2, 8), 7);
        x.recover(3);
        DUES.due("leads no more", x.term(3), 3);
        DUES.due("ship of one that does not lead", x.ship(3, 4), ShardGroups.FOLLOWS);
        DUES.due("length afterwards", x.length(3), length);
        DUES.due("owners of the service", x.owner(0, 2, 0), 2);
        x.crash(0);
        DUES.due("owners of a node that is down", x.owner(0, 2, 0), 2);
        DUES.due("configuration of a node that is down", x.configuration(0), 2);
    }

    /** A node that forgot its term would grant a term twice, or ask for one that was led already. */
    private static void testTermSurvivesACrash() {
        ShardGroups x = new ShardGroups();
        x.elect(4);
        for (int node = 3; node < 6; node++) {
            x.crash(node);
            DUES.due("while it is down", x.term(node), 1);
            x.recover(node);
            DUES.due("when it is up again", x.term(node), 1);
        }
        DUES.due("the next term of the one that led", x.elect(4), 4);
        x.crash(3);
        x.recover(3);
        DUES.due("a term of one that granted", x.elect(3), 6);
    }

    private static void testUnknownEntriesSurviveACrash() {
        ShardGroups x = Steps.led(0);
        x.change(0, 0, 2, 0);
        x.change(0, 0, 3, 0);
        x.crash(0);
        x.recover(0);
        DUES.due("length", x.length(0), 3);
        DUES.due("known", x.known(0), 1);
        DUES.due("it has them yet, so it is not behind", x.elect(0), 6);
        Steps.spread(x, 0);
        DUES.due("now they are known, and NOTHING", x.known(1), 4);
        DUES.due("what the first one made", x.owner(1, 1, 7), 2);
        DUES.due("what the second one made", x.owner(1, 2, 0), 3);
    }

    /** A state that began anew, or that carried entries out twice, would show here. */
    private static void testStateGoesOnAfterACrash() {
        ShardGroups x = Steps.serving();
        Steps.request(x, 1, 0, 1, 2, 3, 10);
        x.crash(4);
        x.recover(4);
        DUES.due("the value of one that was down", x.value(4, 3), 10);
        Steps.request(x, 1, 0, 2, 2, 3, 10);
        DUES.due("it goes on from there", x.value(4, 3), 20);
        DUES.due("with the numbers", x.latest(4, 0, 3), 2);
        x.crash(3);
        x.recover(3);
        x.elect(3);
        Steps.spread(x, 1);
        Steps.request(x, 1, 0, 2, 2, 3, 10);
        Steps.request(x, 1, 0, 3, 2, 3, 10);
        DUES.all("at both, and at most once", 30, x.value(3, 3), x.value(4, 3));
        x.crash(0);
        x.recover(0);
        x.elect(0);
        Steps.change(x, 0, 2, 0);
        DUES.due("the service goes on from its configurations", x.configuration(0), 2);
        DUES.due("with its members", x.owner(0, 2, 7), 1);
    }

    private static void testEveryLeaderLeadsNoMore() {
        for (int node = 0; node < 12; node++) {
            ShardGroups x = new ShardGroups();
            int term = x.elect(node);
            DUES.due("leads", x.term(node), 1000 + term);
            x.crash(node);
            DUES.due("leads no more", x.term(node), term);
            x.recover(node);
            DUES.due("does not lead again", x.term(node), term);
            DUES.due("and can't ship", x.ship(node, node / 3 * 3 + (node + 1) % 3), ShardGroups.FOLLOWS);
        }
    }

    private static ShardGroups withSomeDown() {
        ShardGroups x = Steps.moving();
        for (int node = 1; node < 12; node += 3) {
            x.crash(node);
        }
        return x;
    }

    /** False is due, which counts 0. */
    private static void testRefusedCallsChangeNothing() {
        Refusals refusals = new Refusals(DUES);
        int[] none = {-1, 12, Integer.MIN_VALUE, Integer.MAX_VALUE};
        for (int node : none) {
            refusals.due("some down", NodesTest::withSomeDown, new Call("crash", node), 0);
            refusals.due("some down", NodesTest::withSomeDown, new Call("recover", node), 0);
        }
        for (int node = 0; node < 12; node++) {
            String name = node % 3 == 1 ? "crash" : "recover";
            refusals.due("some down", NodesTest::withSomeDown, new Call(name, node), 0);
        }
    }

    private static void testReadingNodes() {
        ShardGroups x = new ShardGroups();
        x.elect(1);
        x.change(1, 0, 1, 0);
        x.change(1, 0, 2, 0);
        DUES.due("length of the leader", x.length(1), 3);
        DUES.due("known of the leader", x.known(1), 0);
        DUES.due("term of the leader", x.term(1), 1001);
        DUES.due("term of one that granted", x.term(0), 1);
        x.ship(1, 0);
        x.ship(1, 0);
        DUES.due("length of the other one", x.length(0), 2);
        DUES.due("known of the other one", x.known(0), 2);
        DUES.due("known of the leader then", x.known(1), 2);
        DUES.due("known of the third one", x.known(2), 0);
        int[] none = {-1, 12, -12, Integer.MIN_VALUE, Integer.MAX_VALUE};
        for (int node : none) {
            DUES.all("node " + node, ShardGroups.NONE, x.length(node), x.known(node), x.term(node),
                    x.configuration(node));
        }
    }
}
