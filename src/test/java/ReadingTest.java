import java.util.ArrayList;
import java.util.List;

/** Promises 11 to 19: what is read at first, of nodes that are down, and every case of NONE. */
public final class ReadingTest {
    private static final int NONE = ShardGroups.NONE;
    private static final int[] NO_NODE = {-1, 12, Integer.MIN_VALUE, Integer.MAX_VALUE};
    private static final int[] NO_SERVICE = {-1, 3, 11, 12, Integer.MIN_VALUE, Integer.MAX_VALUE};
    private static final int[] NO_STORE = {-1, 0, 2, 12, Integer.MIN_VALUE, Integer.MAX_VALUE};
    private static final int[] NO_SHARD = {-1, 8, Integer.MIN_VALUE, Integer.MAX_VALUE};
    private static final int[] NO_KEY = {-1, 16, Integer.MIN_VALUE, Integer.MAX_VALUE};
    private static final int[] NO_CLIENT = {-1, 3, Integer.MIN_VALUE, Integer.MAX_VALUE};
    private static final Dues DUES = new Dues();
    private static final Refusals REFUSALS = new Refusals(DUES);

    public static void main(String[] args) {
        testNodesAtFirst();
        testShardsAtFirst();
        testOwnersAtFirst();
        testServingAtFirst();
        testNoneOfNodes();
        testNoneOfOwner();
        testNoneOfCondition();
        testNoneOfContents();
        testContentsByCondition();
        testEveryConfiguration();
        testStateIsWhatIsKnown();
        testNodesThatAreDown();
        DUES.end();
    }

    private static void testNodesAtFirst() {
        ShardGroups x = new ShardGroups();
        for (int node = 0; node < 12; node++) {
            DUES.due("length(" + node + ") at first", x.length(node), 0);
            DUES.due("known(" + node + ") at first", x.known(node), 0);
            DUES.due("term(" + node + ") at first", x.term(node), 0);
            DUES.due("configuration(" + node + ") at first", x.configuration(node), 0);
        }
    }

    private static void testShardsAtFirst() {
        for (int node = 3; node < 12; node++) {
            ShardGroups x = new ShardGroups();
            for (int shard = 0; shard < 8; shard++) {
                DUES.due("ABSENT at first", x.condition(node, shard), 0);
            }
            for (int key = 0; key < 16; key++) {
                DUES.due("no value at first", x.value(node, key), NONE);
                for (int client = 0; client < 3; client++) {
                    DUES.due("no latest at first", x.latest(node, client, key), NONE);
                    DUES.due("no answer at first", x.answer(node, client, key), NONE);
                }
            }
        }
    }

    private static void testOwnersAtFirst() {
        ShardGroups x = new ShardGroups();
        for (int node = 0; node < 3; node++) {
            for (int shard = 0; shard < 8; shard++) {
                DUES.due("owner at first", x.owner(node, 0, shard), 0);
                DUES.due("there is no configuration 1", x.owner(node, 1, shard), NONE);
            }
        }
    }

    private static void testServingAtFirst() {
        for (int shard = 0; shard < 8; shard++) {
            ShardGroups x = Steps.serving();
            for (int node = 3; node < 5; node++) {
                DUES.due("SERVING", x.condition(node, shard), 1);
                for (int key = shard; key < 16; key += 8) {
                    DUES.due("value of a shard that is new", x.value(node, key), 0);
                    for (int client = 0; client < 3; client++) {
                        DUES.due("latest of a shard that is new", x.latest(node, client, key), 0);
                        DUES.due("answer of a shard that is new", x.answer(node, client, key), 0);
                    }
                }
            }
        }
    }

    private static void none(Call call) {
        REFUSALS.due("moving", Steps::moving, call, NONE);
    }

    /** The call answers something, and NONE with each of these numbers at the place. */
    private static void noneAt(Call call, int place, int... wrong) {
        DUES.due(call + " answers something", call.on(Steps.moving()) >= 0, true);
        for (int arg : wrong) {
            none(call.with(place, arg));
        }
    }

    private static void testNoneOfNodes() {
        for (String name : new String[] {"length", "known", "term", "configuration"}) {
            for (int node = 0; node < 12; node += 11) {
                noneAt(new Call(name, node), 0, NO_NODE);
            }
        }
    }

    private static void testNoneOfOwner() {
        Call owner = new Call("owner", 0, 2, 7);
        noneAt(owner, 0, NO_SERVICE);
        noneAt(owner, 1, -1, 3, 15, 16, Integer.MIN_VALUE, Integer.MAX_VALUE);
        noneAt(owner, 2, NO_SHARD);
        noneAt(new Call("owner", 1, 0, 0), 2, NO_SHARD);
        noneAt(new Call("owner", 2, 0, 0), 1, -1, 1, 2);
    }

    private static void testNoneOfCondition() {
        for (int node = 3; node < 12; node += 4) {
            noneAt(new Call("condition", node, 0), 0, NO_STORE);
            noneAt(new Call("condition", node, 7), 1, NO_SHARD);
        }
    }

    private static void testNoneOfContents() {
        int[] keys = {0, 4, 7, 15};
        for (int key : keys) {
            noneAt(new Call("value", 3, key), 0, NO_STORE);
            noneAt(new Call("value", 4, key), 1, NO_KEY);
            for (String name : new String[] {"latest", "answer"}) {
                noneAt(new Call(name, 3, 0, key), 0, NO_STORE);
                noneAt(new Call(name, 3, 2, key), 1, NO_CLIENT);
                noneAt(new Call(name, 4, 1, key), 2, NO_KEY);
            }
        }
    }

    /** Shards 0 .. 3 are SENDING in group 1 and PULLING in 2; 4 .. 7 are SERVING in 1, and ABSENT in 2. */
    private static void testContentsByCondition() {
        for (int key = 0; key < 16; key++) {
            List<Call> calls = contents(key);
            for (Call call : calls) {
                DUES.due(call + ", SENDING or SERVING", call.on(Steps.moving()) >= 0, true);
                none(call.with(0, 6));
                none(call.with(0, 9));
            }
        }
        ShardGroups x = Steps.moving();
        DUES.due("a value of one that is SENDING", x.value(3, 0), 55);
        DUES.due("its latest", x.latest(3, 0, 8), 4);
        DUES.due("its answer", x.answer(3, 0, 8), 55);
        DUES.due("the conditions", x.condition(3, 0) * 1000 + x.condition(3, 4) * 100
                + x.condition(6, 0) * 10 + x.condition(6, 4), 3120);
    }

    private static List<Call> contents(int key) {
        List<Call> calls = new ArrayList<>();
        calls.add(new Call("value", 3, key));
        for (int client = 0; client < 3; client++) {
            calls.add(new Call("latest", 3, client, key));
            calls.add(new Call("answer", 3, client, key));
        }
        return calls;
    }

    /** There is one configuration after another up to the last, and none behind it. */
    private static void testEveryConfiguration() {
        ShardGroups x = Steps.led(0);
        Steps.change(x, 0, 3, 0);
        for (int last = 1; last < 16; last++) {
            DUES.due("configuration", x.configuration(0), last);
            DUES.due("owner in the last", x.owner(0, last, 7), 3);
            DUES.due("owner in the first", x.owner(0, 0, 7), 0);
            DUES.due("owner behind the last", x.owner(0, last + 1, 7), NONE);
            DUES.due("owner before the first", x.owner(0, -1, 7), NONE);
            Steps.change(x, 2, 0, 3);
        }
        DUES.due("the last one of all", x.configuration(0), 15);
    }

    /** What is in a log but not known is in no state. */
    private static void testStateIsWhatIsKnown() {
        ShardGroups x = Steps.led(1);
        x.change(0, 0, 1, 0);
        DUES.due("length grows", x.length(0), 2);
        DUES.due("known does not", x.known(0), 1);
        DUES.due("no configuration of it", x.configuration(0), 0);
        DUES.due("no owner of it", x.owner(0, 1, 0), NONE);
        x.ship(0, 2);
        DUES.due("its first entry is known before", x.configuration(2), 0);
        x.ship(0, 2);
        DUES.due("then it is in the state of the leader", x.owner(0, 1, 0), 1);
        DUES.due("and of the one that has it", x.owner(2, 1, 0), 1);
        DUES.due("but of no other", x.owner(1, 1, 0), NONE);
        DUES.due("known of that one", x.known(1), 1);
    }

    private static void testNodesThatAreDown() {
        for (int node = 0; node < 12; node++) {
            ShardGroups x = Steps.moving();
            ShardGroups y = Steps.moving();
            y.crash(node);
            boolean led = x.term(node) > 1000;
            DUES.due("term of one that is down", y.term(node), x.term(node) - (led ? 1000 : 0));
            for (Call call : readings(node)) {
                DUES.due(call + " of one that is down", call.on(y), call.on(x));
            }
        }
    }

    private static List<Call> readings(int node) {
        List<Call> calls = new ArrayList<>();
        calls.add(new Call("length", node));
        calls.add(new Call("known", node));
        calls.add(new Call("configuration", node));
        for (int shard = 0; shard < 8; shard++) {
            for (int c = 0; c < 4; c++) {
                calls.add(new Call("owner", node, c, shard));
            }
            calls.add(new Call("condition", node, shard));
            calls.add(new Call("value", node, shard));
            calls.add(new Call("value", node, shard + 8));
            for (int client = 0; client < 3; client++) {
                calls.add(new Call("latest", node, client, shard));
                calls.add(new Call("answer", node, client, shard));
            }
        }
        return calls;
    }
}
