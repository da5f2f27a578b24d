/** Promises 8 to 10 and 16: poll, pull, confirm, condition. */
public final class MovingTest {
    private static final Dues DUES = new Dues();

    public static void main(String[] args) {
        testPoll();
        testPollEarly();
        testPollFullAndNone();
        testConfigurationTwice();
        testWholeMove();
        testPullEarly();
        testPullFullAndNone();
        testInsertIsACopy();
        testInsertTwice();
        testConfirm();
        testConfirmEarly();
        testConfirmFullAndNone();
        testDeleteTwice();
        testConditionNone();
        DUES.end();
    }

    private static void conditions(ShardGroups x, int node, String want) {
        for (int shard = 0; shard < 8; shard++) {
            DUES.due("condition(" + node + ", " + shard + ")", x.condition(node, shard), want.charAt(shard) - '0');
        }
    }

    private static void testPoll() {
        ShardGroups x = Steps.led(2);
        DUES.due("no configuration 1", x.poll(3, 0), ShardGroups.EARLY);
        x.change(0, 0, 1, 0);
        DUES.due("not known yet", x.poll(3, 0), ShardGroups.EARLY);
        Steps.spread(x, 0);
        DUES.due("known at 0", x.poll(3, 0), 2);
        DUES.due("not at 2", x.poll(3, 2), ShardGroups.EARLY);
        DUES.due("known at 1", x.poll(3, 1), 3);
        DUES.due("not carried out yet", x.configuration(3), 0);
        conditions(x, 3, "00000000");
        Steps.spread(x, 1);
        DUES.due("carried out once", x.configuration(3), 1);
        conditions(x, 3, "11111111");
        DUES.due("a group without shards", x.poll(6, 1), 2);
        Steps.spread(x, 2);
        conditions(x, 6, "00000000");
        DUES.due("its configuration", x.configuration(6), 1);
    }

    private static void testPollEarly() {
        ShardGroups x = Steps.moving();
        Steps.change(x, 2, 7, 2);
        DUES.due("some are SENDING", x.poll(3, 0), ShardGroups.EARLY);
        DUES.due("some are PULLING", x.poll(6, 0), ShardGroups.EARLY);
        for (int shard = 0; shard < 4; shard++) {
            DUES.due("one of them is yet to come", x.poll(6, 0), ShardGroups.EARLY);
            Steps.pull(x, 2, shard, 1);
        }
        DUES.due("now it is settled", x.poll(6, 0) > 0, true);
        for (int shard = 0; shard < 4; shard++) {
            DUES.due("one of them is yet to go", x.poll(3, 0), ShardGroups.EARLY);
            Steps.confirm(x, 1, shard, 2);
        }
        DUES.due("now it is settled", x.poll(3, 0) > 0, true);
        Steps.spread(x, 1);
        conditions(x, 3, "00001113");
    }

    private static void testPollFullAndNone() {
        ShardGroups x = Steps.led(1);
        DUES.all("NONE", ShardGroups.NONE, x.poll(0, 0), x.poll(-1, 0), x.poll(12, 0), x.poll(3, -1), x.poll(3, 3),
                x.poll(3, 12), x.poll(4, 3), x.poll(Integer.MIN_VALUE, Integer.MAX_VALUE));
        DUES.due("FOLLOWS before EARLY", x.poll(4, 0), ShardGroups.FOLLOWS);
        Steps.fill(x, 3);
        DUES.due("EARLY before FULL", x.poll(3, 0), ShardGroups.EARLY);
        Steps.change(x, 0, 1, 0);
        DUES.due("FULL", x.poll(3, 0), ShardGroups.FULL);
        DUES.due("nothing written", x.length(3), 80);
        x.crash(0);
        DUES.due("the node of the service is down", x.poll(3, 0), ShardGroups.NONE);
        DUES.due("another one is not", x.poll(3, 1), ShardGroups.FULL);
        x.crash(3);
        DUES.due("the node is down", x.poll(3, 1), ShardGroups.NONE);
    }

    private static void testConfigurationTwice() {
        ShardGroups x = Steps.serving();
        Steps.request(x, 1, 0, 1, 1, 7, 70);
        Steps.change(x, 0, 2, 0);
        x.poll(3, 0);
        x.poll(3, 0);
        Steps.spread(x, 1);
        conditions(x, 3, "33331111");
        DUES.due("configuration", x.configuration(3), 2);
        DUES.due("what stays has what it had", x.value(3, 7), 70);
    }

    private static void testWholeMove() {
        ShardGroups x = Steps.moving();
        conditions(x, 3, "33331111");
        conditions(x, 6, "22220000");
        DUES.due("pull", x.pull(6, 0, 3), 4);
        conditions(x, 6, "22220000");
        x.ship(6, 7);
        conditions(x, 6, "12220000");
        conditions(x, 7, "12220000");
        conditions(x, 8, "00000000");
        DUES.all("values", 55, x.value(6, 0), x.value(7, 0));
        DUES.due("the other key", x.value(6, 8), 7);
        DUES.due("latest", x.latest(6, 0, 0), 4);
        DUES.due("answer", x.answer(6, 0, 0), 55);
        DUES.due("latest of another client", x.latest(6, 2, 0), 9);
        DUES.due("answer of another client", x.answer(6, 2, 0), 7);
        DUES.due("a client that asked nothing", x.latest(6, 1, 0), 0);
        Steps.request(x, 2, 0, 4, 1, 0, 1);
        DUES.due("at most once, there too", x.value(6, 0), 55);
        DUES.due("confirm", x.confirm(3, 0, 6), 6);
        conditions(x, 3, "33331111");
        x.ship(3, 4);
        conditions(x, 3, "03331111");
        conditions(x, 4, "03331111");
        DUES.all("gone", ShardGroups.NONE, x.value(3, 0), x.latest(3, 0, 0), x.answer(3, 0, 0), x.value(3, 8));
        DUES.due("the others are there", x.value(3, 1), 0);
    }

    private static void testPullEarly() {
        ShardGroups x = Steps.serving();
        Steps.change(x, 0, 2, 0);
        Steps.poll(x, 2);
        DUES.due("not PULLING yet", x.pull(6, 0, 3), ShardGroups.EARLY);
        Steps.poll(x, 2);
        DUES.due("PULLING, but not SENDING", x.pull(6, 0, 3), ShardGroups.EARLY);
        Steps.poll(x, 1);
        DUES.due("SENDING, but not at 5", x.pull(6, 0, 5), ShardGroups.EARLY);
        DUES.due("not at a group that never had it", x.pull(6, 0, 9), ShardGroups.EARLY);
        DUES.due("not at one of its own", x.pull(6, 0, 7), ShardGroups.EARLY);
        DUES.due("a shard that does not move", x.pull(6, 4, 3), ShardGroups.EARLY);
        DUES.due("the sender does not pull", x.pull(3, 0, 6), ShardGroups.EARLY);
        DUES.due("nothing written", x.length(6), 3);
        DUES.due("the third shard", x.pull(6, 3, 4), 4);
        testPullFromAnotherConfiguration();
    }

    /** Shard 4 goes from group 1 to 3 in configuration 3, and on to 2 in 4, where group 1 is not yet. */
    private static void testPullFromAnotherConfiguration() {
        ShardGroups x = Steps.moving();
        for (int shard = 0; shard < 4; shard++) {
            Steps.pull(x, 2, shard, 1);
            Steps.confirm(x, 1, shard, 2);
        }
        Steps.change(x, 0, 3, 0);
        Steps.change(x, 2, 4, 2);
        Steps.poll(x, 1);
        DUES.due("4 goes from 1 to 3", x.condition(3, 4), 3);
        Steps.poll(x, 2);
        Steps.poll(x, 3);
        Steps.poll(x, 3);
        Steps.poll(x, 3);
        Steps.pull(x, 3, 4, 1);
        Steps.pull(x, 3, 0, 2);
        Steps.confirm(x, 2, 0, 3);
        Steps.poll(x, 2);
        DUES.due("4 goes from 3 to 2", x.condition(6, 4), 2);
        DUES.due("1 is SENDING it", x.condition(3, 4), 3);
        DUES.due("in another configuration", x.pull(6, 4, 3), ShardGroups.EARLY);
        Steps.poll(x, 3);
        DUES.due("3 is SENDING it in the same", x.pull(6, 4, 9) > 0, true);
        DUES.due("a greater number is enough for 1", x.confirm(3, 4, 9) > 0, true);
    }

    private static void testPullFullAndNone() {
        ShardGroups x = Steps.moving();
        DUES.all("NONE", ShardGroups.NONE, x.pull(0, 0, 3), x.pull(-1, 0, 3), x.pull(12, 0, 3), x.pull(6, 0, 2),
                x.pull(6, 0, -1), x.pull(6, 0, 12), x.pull(6, -1, 3), x.pull(6, 8, 3), x.pull(7, 8, 3),
                x.pull(Integer.MAX_VALUE, Integer.MIN_VALUE, 3));
        DUES.due("FOLLOWS", x.pull(7, 0, 3), ShardGroups.FOLLOWS);
        DUES.due("FOLLOWS before EARLY", x.pull(7, 5, 3), ShardGroups.FOLLOWS);
        Steps.fill(x, 6);
        DUES.due("EARLY before FULL", x.pull(6, 5, 3), ShardGroups.EARLY);
        DUES.due("FULL", x.pull(6, 0, 3), ShardGroups.FULL);
        x.crash(3);
        DUES.due("the other one is down", x.pull(6, 0, 3), ShardGroups.NONE);
        x.crash(6);
        DUES.due("the node is down", x.pull(6, 0, 4), ShardGroups.NONE);
    }

    /** A shard comes back to its sender and changes there: the INSERT of before has what was sent. */
    private static void testInsertIsACopy() {
        ShardGroups x = Steps.moving();
        for (int shard = 0; shard < 4; shard++) {
            Steps.pull(x, 2, shard, 1);
            Steps.confirm(x, 1, shard, 2);
        }
        Steps.change(x, 2, 0, 1);
        Steps.poll(x, 1);
        Steps.poll(x, 2);
        Steps.pull(x, 1, 0, 2);
        Steps.confirm(x, 2, 0, 1);
        Steps.request(x, 1, 0, 50, 1, 0, 500);
        DUES.due("changed at the sender", x.value(3, 0), 500);
        for (int i = 0; i < 4; i++) {
            x.ship(6, 8);
        }
        DUES.due("a node that carries it out late", x.value(8, 0), 55);
        DUES.due("its latest", x.latest(8, 0, 0), 4);
        DUES.due("its answer", x.answer(8, 0, 0), 55);
        DUES.due("gone at the others", x.value(6, 0), ShardGroups.NONE);
    }

    /** Two INSERTs are written; the second comes when the shard serves, and has changed. */
    private static void testInsertTwice() {
        ShardGroups x = Steps.moving();
        x.pull(6, 0, 3);
        x.request(6, 0, 5, 1, 0, 66);
        x.pull(6, 0, 4);
        Steps.spread(x, 2);
        DUES.due("the second INSERT does nothing", x.value(6, 0), 66);
        DUES.due("its latest", x.latest(6, 0, 0), 5);
    }

    private static void testConfirm() {
        ShardGroups x = Steps.moving();
        Steps.pull(x, 2, 0, 1);
        int length = x.length(3);
        DUES.due("not there at 8", x.confirm(3, 0, 8), ShardGroups.EARLY);
        DUES.due("there at 7", x.confirm(3, 0, 7), length + 1);
        DUES.due("there at 6", x.confirm(3, 0, 6), length + 2);
        Steps.spread(x, 1);
        conditions(x, 3, "03331111");
    }

    private static void testConfirmEarly() {
        ShardGroups x = Steps.serving();
        Steps.change(x, 0, 2, 0);
        DUES.due("it serves", x.confirm(3, 0, 6), ShardGroups.EARLY);
        Steps.poll(x, 1);
        DUES.due("the other one has a lesser number", x.confirm(3, 0, 6), ShardGroups.EARLY);
        Steps.poll(x, 2);
        Steps.poll(x, 2);
        DUES.due("the same one, but PULLING", x.confirm(3, 0, 6), ShardGroups.EARLY);
        Steps.pull(x, 2, 0, 1);
        DUES.due("a shard that does not move", x.confirm(3, 4, 6), ShardGroups.EARLY);
        DUES.due("one that is yet to come", x.confirm(3, 1, 6), ShardGroups.EARLY);
        DUES.due("a group that is not the owner", x.confirm(3, 0, 9), ShardGroups.EARLY);
        DUES.due("one of its own", x.confirm(3, 0, 4), ShardGroups.EARLY);
        DUES.due("the one that pulls does not send", x.confirm(6, 0, 3), ShardGroups.EARLY);
        DUES.due("now", x.confirm(3, 0, 6) > 0, true);
        Steps.spread(x, 1);
        DUES.due("gone already, and there", x.confirm(3, 0, 6), ShardGroups.EARLY);
        Steps.change(x, 2, 7, 2);
        for (int i = 0; i < 3; i++) {
            Steps.poll(x, 3);
        }
        DUES.due("further on", x.configuration(9), 3);
        DUES.due("further on, but not the owner", x.confirm(3, 1, 9), ShardGroups.EARLY);
    }

    private static void testConfirmFullAndNone() {
        ShardGroups x = Steps.moving();
        Steps.pull(x, 2, 0, 1);
        DUES.all("NONE", ShardGroups.NONE, x.confirm(0, 0, 6), x.confirm(-1, 0, 6), x.confirm(12, 0, 6),
                x.confirm(3, 0, 2), x.confirm(3, 0, -1), x.confirm(3, 0, 12), x.confirm(3, -1, 6),
                x.confirm(3, 8, 6), x.confirm(4, 8, 6), x.confirm(Integer.MIN_VALUE, Integer.MAX_VALUE, 3));
        DUES.due("FOLLOWS", x.confirm(4, 0, 6), ShardGroups.FOLLOWS);
        DUES.due("FOLLOWS before EARLY", x.confirm(4, 5, 6), ShardGroups.FOLLOWS);
        Steps.fill(x, 3);
        DUES.due("EARLY before FULL", x.confirm(3, 1, 6), ShardGroups.EARLY);
        DUES.due("FULL", x.confirm(3, 0, 6), ShardGroups.FULL);
        x.crash(6);
        DUES.due("the other one is down", x.confirm(3, 0, 6), ShardGroups.NONE);
        x.crash(3);
        DUES.due("the node is down", x.confirm(3, 0, 7), ShardGroups.NONE);
    }

    /** Two DELETEs are written; the second must not harm the shard, which comes back later. */
    private static void testDeleteTwice() {
        ShardGroups x = Steps.moving();
        for (int shard = 0; shard < 4; shard++) {
            Steps.pull(x, 2, shard, 1);
            Steps.confirm(x, 1, shard, 2);
        }
        Steps.change(x, 2, 0, 1);
        Steps.change(x, 2, 0, 2);
        Steps.poll(x, 1);
        Steps.poll(x, 2);
        Steps.pull(x, 1, 0, 2);
        x.confirm(6, 0, 3);
        x.confirm(6, 0, 3);
        Steps.spread(x, 2);
        Steps.poll(x, 1);
        Steps.poll(x, 2);
        DUES.due("SENDING again", x.condition(3, 0), 3);
        DUES.due("PULLING again", x.condition(6, 0), 2);
        Steps.pull(x, 2, 0, 1);
        DUES.due("back again, with what it had", x.value(6, 0), 55);
    }

    private static void testConditionNone() {
        ShardGroups x = Steps.moving();
        DUES.all("NONE", ShardGroups.NONE, x.condition(-1, 0), x.condition(0, 0), x.condition(2, 7),
                x.condition(12, 0), x.condition(3, -1), x.condition(3, 8), x.condition(3, Integer.MIN_VALUE));
        DUES.due("edges", x.condition(11, 7), 0);
        DUES.due("edges", x.condition(3, 0), 3);
    }
}
