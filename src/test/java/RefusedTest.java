import java.util.ArrayList;
import java.util.List;
import java.util.function.Supplier;

/**
 * Promises 6 to 10: what is refused, in the order NONE, FOLLOWS, EARLY, FULL, and that a refused call changes
 * nothing. Every call of the tables below is taken by the leader in the state `ready`, so that nothing but the
 * one thing that a test makes wrong can be why it is refused.
 */
public final class RefusedTest {
    private static final Dues DUES = new Dues();
    private static final Refusals REFUSALS = new Refusals(DUES);

    /** Its other numbers are such that each of these kinds would do with them, and so would a kind too many. */
    private static final Call JOIN = new Call("change", 0, 0, 3, 1);
    private static final Call LEAVE = new Call("change", 0, 1, 2, 1);
    private static final Call MOVE = new Call("change", 0, 2, 2, 2);
    private static final Call GET = new Call("request", 3, 0, 50, 0, 4, 9);
    private static final Call PUT = new Call("request", 3, 1, 50, 1, 5, 9);
    private static final Call ADD = new Call("request", 3, 2, 50, 2, 14, 9);
    private static final Call POLL = new Call("poll", 9, 0);
    private static final Call PULL = new Call("pull", 6, 1, 3);
    private static final Call CONFIRM = new Call("confirm", 3, 0, 6);
    private static final List<Call> TAKEN = List.of(JOIN, LEAVE, MOVE, GET, PUT, ADD, POLL, PULL, CONFIRM);

    /** What is EARLY in the state `ready`: shards 0 .. 3 go from group 1 to 2, and 0 is there. */
    private static final List<Call> EARLY = List.of(
            new Call("poll", 3, 0), new Call("poll", 6, 0), new Call("poll", 9, 2),
            new Call("pull", 6, 0, 3), new Call("pull", 6, 4, 3), new Call("pull", 6, 1, 9),
            new Call("pull", 6, 1, 6), new Call("pull", 6, 1, 5), new Call("pull", 3, 1, 3),
            new Call("pull", 3, 4, 3), new Call("pull", 3, 1, 6), new Call("pull", 9, 1, 3),
            new Call("confirm", 3, 1, 6), new Call("confirm", 3, 4, 6), new Call("confirm", 3, 0, 8),
            new Call("confirm", 3, 0, 9), new Call("confirm", 3, 0, 3), new Call("confirm", 3, 0, 4),
            new Call("confirm", 6, 0, 3), new Call("confirm", 6, 1, 3), new Call("confirm", 9, 0, 6));

    public static void main(String[] args) {
        testTaken();
        testWrongArguments();
        testNodesThatAreDown();
        testNobodyLeads();
        testFollows();
        testEarly();
        testFull();
        testOneMoreFits();
        DUES.end();
    }

    private static ShardGroups ready() {
        ShardGroups x = Steps.moving();
        Steps.change(x, 2, 7, 2);
        Steps.pull(x, 2, 0, 1);
        return x;
    }

    private static Supplier<ShardGroups> full(int group) {
        return () -> {
            ShardGroups x = ready();
            Steps.fill(x, 3 * group);
            return x;
        };
    }

    /** The second node has all 80 entries too, so that it could not write for two reasons. */
    private static Supplier<ShardGroups> bothFull(int group) {
        return () -> {
            ShardGroups x = full(group).get();
            Steps.copy(x, 3 * group, 3 * group + 1);
            return x;
        };
    }

    private static Supplier<ShardGroups> without(Supplier<ShardGroups> run, int node) {
        return () -> {
            ShardGroups x = run.get();
            x.crash(node);
            return x;
        };
    }

    private static int groupOf(Call call) {
        return call.arg(0) / 3;
    }

    /** The same call at a node of the group that knows as much as the leader, but does not lead. */
    private static Call atFollower(Call call) {
        return call.with(0, call.arg(0) + 1);
    }

    private static void testTaken() {
        for (Call call : TAKEN) {
            ShardGroups x = ready();
            int length = x.length(call.arg(0));
            DUES.due(call.toString(), call.on(x), length + 1);
            DUES.due("length after " + call, x.length(call.arg(0)), length + 1);
        }
    }

    /** Numbers just below and just above what an argument may be, and some far off. */
    private static int[] wrong(Call call, int place) {
        if (place == 0) {
            return call.is("change") ? new int[] {-1, 3, 6, 12} : new int[] {-1, 0, 2, 12, 15};
        }
        if (call.is("poll")) {
            return new int[] {-1, 3, 12};
        }
        if (call.is("request")) {
            int[][] wrong = {{-1, 3}, {-1, 0, 1000}, {-1, 3}, {-1, 16}, {-1, 1000}};
            return wrong[place - 1];
        }
        if (call.is("change")) {
            boolean moves = call.arg(1) == 2;
            int[][] wrong = {{-1, 3}, moves ? new int[] {-1, 8} : new int[] {-1, 0, 4}, {-1, 0, 4}};
            return wrong[place - 1];
        }
        return place == 1 ? new int[] {-1, 8} : new int[] {-1, 0, 2, 12};
    }

    private static List<Call> wrongCalls(Call call, int place) {
        List<Call> calls = new ArrayList<>();
        // For JOIN and LEAVE the last argument says nothing, so no number is wrong there.
        if (call.is("change") && place == 3 && call.arg(1) != 2) {
            return calls;
        }
        for (int arg : wrong(call, place)) {
            calls.add(call.with(place, arg));
        }
        calls.add(call.with(place, Integer.MIN_VALUE));
        calls.add(call.with(place, Integer.MAX_VALUE));
        return calls;
    }

    private static void testWrongArguments() {
        List<Call> all = new ArrayList<>(TAKEN);
        all.addAll(EARLY);
        for (Call call : all) {
            int group = groupOf(call);
            for (int place = 0; place < call.countArgs(); place++) {
                for (Call wrong : wrongCalls(call, place)) {
                    REFUSALS.due("ready", RefusedTest::ready, wrong, ShardGroups.NONE);
                    REFUSALS.due("full " + group, full(group), wrong, ShardGroups.NONE);
                    if (place > 0) {
                        REFUSALS.due("both full " + group, bothFull(group), atFollower(wrong), ShardGroups.NONE);
                    }
                }
            }
        }
    }

    /** The node itself, and the one that it asks; whether the first one leads, or has room, is not asked. */
    private static void testNodesThatAreDown() {
        List<Call> all = new ArrayList<>(TAKEN);
        all.addAll(EARLY);
        for (Call call : all) {
            down(call, call.arg(0));
            if (call.is("poll")) {
                down(call, call.arg(1));
            } else if (call.is("pull") || call.is("confirm")) {
                down(call, call.arg(2));
            }
        }
    }

    private static void down(Call call, int node) {
        int group = groupOf(call);
        REFUSALS.due("without " + node, without(RefusedTest::ready, node), call, ShardGroups.NONE);
        REFUSALS.due("full " + group + " without " + node, without(full(group), node), call, ShardGroups.NONE);
        Call following = atFollower(call);
        int other = node == call.arg(0) ? following.arg(0) : node;
        REFUSALS.due("both full " + group + " without " + other, without(bothFull(group), other), following,
                ShardGroups.NONE);
    }

    private static void testNobodyLeads() {
        for (Call call : TAKEN) {
            REFUSALS.due("new", ShardGroups::new, call, ShardGroups.FOLLOWS);
            for (int place = 1; place < call.countArgs(); place++) {
                for (Call wrong : wrongCalls(call, place)) {
                    REFUSALS.due("new", ShardGroups::new, wrong, ShardGroups.NONE);
                }
            }
        }
    }

    private static void testFollows() {
        List<Call> all = new ArrayList<>(TAKEN);
        all.addAll(EARLY);
        for (Call call : all) {
            int group = groupOf(call);
            Call following = atFollower(call);
            REFUSALS.due("ready", RefusedTest::ready, following, ShardGroups.FOLLOWS);
            REFUSALS.due("ready", RefusedTest::ready, atFollower(following), ShardGroups.FOLLOWS);
            REFUSALS.due("both full " + group, bothFull(group), following, ShardGroups.FOLLOWS);
            int leader = call.arg(0);
            Supplier<ShardGroups> recovered = () -> {
                ShardGroups x = ready();
                x.crash(leader);
                x.recover(leader);
                return x;
            };
            REFUSALS.due("recovered " + leader, recovered, call, ShardGroups.FOLLOWS);
        }
    }

    private static void testEarly() {
        for (Call call : EARLY) {
            int group = groupOf(call);
            REFUSALS.due("ready", RefusedTest::ready, call, ShardGroups.EARLY);
            REFUSALS.due("full " + group, full(group), call, ShardGroups.EARLY);
        }
    }

    private static void testFull() {
        for (Call call : TAKEN) {
            int group = groupOf(call);
            REFUSALS.due("full " + group, full(group), call, ShardGroups.FULL);
            REFUSALS.due("both full " + group, bothFull(group), call, ShardGroups.FULL);
        }
    }

    /** The 80th entry is written, whatever it is, and then no other. */
    private static void testOneMoreFits() {
        for (Call call : TAKEN) {
            int leader = call.arg(0);
            ShardGroups x = ready();
            for (int i = x.length(leader); i < 79; i++) {
                DUES.due("filling", leader < 3 ? x.change(leader, 1, 3, 0) : x.request(leader, 0, 1, 0, 0, 0), i + 1);
            }
            DUES.due("the 80th entry by " + call, call.on(x), 80);
            for (Call next : TAKEN) {
                if (next.arg(0) == leader) {
                    DUES.due("then " + next, next.on(x), ShardGroups.FULL);
                }
            }
            DUES.due("and then", x.length(leader), 80);
            Steps.copy(x, leader, leader + 1);
            DUES.due("all 80 are known", x.known(leader + 1), 80);
        }
    }
}
