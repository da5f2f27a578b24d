/** Promises 8 to 10 and 16: poll, pull, confirm, condition. */
public final class MovingTest {
    private static final Dues DUES = new Dues();

    public static void main(String[] args) {
        testPoll();
        testPollEarly();
        testPollByEachNode();
        testOneShardUnsettles();
        testOwnersBeforeAndNow();
        testAllConfigurationsAreAdopted();
        testPollFullAndNone();
        testConfigurationTwice();
        testWholeMove();
        testMoveBetweenAllNodes();
        testEveryShardMoves();
        testEveryNodeCarriesItOut();
        testPullEarly();
        testStaleLeaderPulls();
        testPullFullAndNone();
        testInsertIsACopy();
        testInsertTwice();
        testConfirm();
        testConfirmEarly();
        testConfirmWithOneThatIsBehind();
        testStaleLeaderConfirms();
        testConfirmFullAndNone();
        testDeleteTwice();
        testConditionNone();
        DUES.end();
    }

    private static void conditions(ShardGroups x, int node, String want) {
        for (int shard = 0; shard < 8; shard++) {
            DUES.due("condition(" + node + ", " + shard + ")", x.condition(node, shard), want.charAt(shard) - '0');
        }
    }

    private static void testPoll() {
        ShardGroups x = Steps.led(2);
        DUES.due("no configuration 1", x.poll(3, 0), ShardGroups.EARLY);
        x.change(0, 0, 1, 0);
        DUES.due("not known yet", x.poll(3, 0), ShardGroups.EARLY);
        Steps.spread(x, 0);
        DUES.due("known at 0", x.poll(3, 0), 2);
        DUES.due("not at 2", x.poll(3, 2), ShardGroups.EARLY);
        DUES.due("known at 1", x.poll(3, 1), 3);
        DUES.due("not carried out yet", x.configuration(3), 0);
        conditions(x, 3, "00000000");
        Steps.spread(x, 1);
        DUES.due("carried out once", x.configuration(3), 1);
        conditions(x, 3, "11111111");
        DUES.due("a group without shards", x.poll(6, 1), 2);
        Steps.spread(x, 2);
        conditions(x, 6, "00000000");
        DUES.due("its configuration", x.configuration(6), 1);
    }

    private static void testPollEarly() {
        ShardGroups x = Steps.moving();
        Steps.change(x, 2, 7, 2);
        DUES.due("some are SENDING", x.poll(3, 0), ShardGroups.EARLY);
        DUES.due("some are PULLING", x.poll(6, 0), ShardGroups.EARLY);
        for (int shard = 0; shard < 4; shard++) {
            DUES.due("one of them is yet to come", x.poll(6, 0), ShardGroups.EARLY);
            Steps.pull(x, 2, shard, 1);
        }
        DUES.due("now it is settled", x.poll(6, 0) > 0, true);
        for (int shard = 0; shard < 4; shard++) {
            DUES.due("one of them is yet to go", x.poll(3, 0), ShardGroups.EARLY);
            Steps.confirm(x, 1, shard, 2);
        }
        DUES.due("now it is settled", x.poll(3, 0) > 0, true);
        Steps.spread(x, 1);
        conditions(x, 3, "00001113");
    }

    private static void testPollByEachNode() {
        for (int node = 3; node < 12; node++) {
            for (int service = 0; service < 3; service++) {
                ShardGroups x = Steps.led(0);
                Steps.change(x, 0, node / 3, 0);
                x.elect(node);
                DUES.due("poll(" + node + ", " + service + ")", x.poll(node, service),
                        service < 2 ? 2 : ShardGroups.EARLY);
                Steps.copy(x, 0, 2);
                DUES.due("poll where all know it", x.poll(node, service), service < 2 ? 3 : 2);
                int next = node / 3 * 3 + (node + 1) % 3;
                DUES.due("poll by one that follows", x.poll(next, service), ShardGroups.FOLLOWS);
                Steps.copy(x, node, next);
                conditions(x, node, "11111111");
                conditions(x, next, "11111111");
                DUES.due("there is no next one", x.poll(node, service), ShardGroups.EARLY);
            }
        }
    }

    /** A shard that is SENDING, and one that is PULLING: each alone keeps a group from going on. */
    private static void testOneShardUnsettles() {
        for (int shard = 0; shard < 8; shard++) {
            ShardGroups x = Steps.serving();
            Steps.change(x, 0, 2, 0);
            Steps.poll(x, 1);
            Steps.poll(x, 2);
            Steps.poll(x, 2);
            for (int i = 0; i < 4; i++) {
                Steps.pull(x, 2, i, 1);
                Steps.confirm(x, 1, i, 2);
            }
            int sender = shard < 4 ? 2 : 1;
            int receiver = 3 - sender;
            Steps.change(x, 2, shard, receiver);
            Steps.change(x, 2, shard, receiver);
            Steps.poll(x, sender);
            Steps.poll(x, receiver);
            DUES.due("SENDING", x.condition(3 * sender, shard), 3);
            DUES.due("PULLING", x.condition(3 * receiver, shard), 2);
            DUES.due("one SENDING", x.poll(3 * sender, 0), ShardGroups.EARLY);
            DUES.due("one PULLING", x.poll(3 * receiver, 0), ShardGroups.EARLY);
            Steps.pull(x, receiver, shard, sender);
            DUES.due("yet SENDING", x.poll(3 * sender, 0), ShardGroups.EARLY);
            DUES.due("SERVING", x.poll(3 * receiver, 0) > 0, true);
            Steps.confirm(x, sender, shard, receiver);
            DUES.due("ABSENT", x.poll(3 * sender, 0) > 0, true);
        }
    }

    /** With the owner 0 before a shard serves at once, with another one it must be pulled. */
    private static void testOwnersBeforeAndNow() {
        ShardGroups x = Steps.led(3);
        Steps.change(x, 0, 2, 0);
        Steps.change(x, 0, 3, 0);
        Steps.change(x, 2, 0, 2);
        for (int group = 1; group <= 3; group++) {
            Steps.poll(x, group);
        }
        conditions(x, 3, "00000000");
        conditions(x, 6, "11111111");
        conditions(x, 9, "00000000");
        for (int group = 1; group <= 3; group++) {
            Steps.poll(x, group);
        }
        conditions(x, 3, "00000000");
        conditions(x, 6, "33331111");
        conditions(x, 9, "22220000");
        Steps.poll(x, 1);
        conditions(x, 3, "00000000");
        DUES.due("a group that owns nothing goes on", x.configuration(3), 3);
        DUES.due("the others don't", x.configuration(6) * 10 + x.configuration(9), 22);
    }

    /** A group that owns nothing adopts one after the other, up to the last that there can be. */
    private static void testAllConfigurationsAreAdopted() {
        ShardGroups x = Steps.led(3);
        Steps.change(x, 0, 1, 0);
        for (int i = 0; i < 20; i++) {
            Steps.change(x, 2, i % 8, 1);
        }
        DUES.due("sixteen", x.configuration(0), 15);
        for (int c = 1; c < 16; c++) {
            DUES.due("poll", x.poll(9, 0), c + 1);
            x.ship(9, 10);
            DUES.due("configuration", x.configuration(9), c);
        }
        DUES.due("there is no sixteenth", x.poll(9, 0), ShardGroups.EARLY);
        DUES.due("not at the other one either", x.poll(9, 1), ShardGroups.EARLY);
        DUES.due("the log", x.length(9), 16);
    }

    private static void testPollFullAndNone() {
        ShardGroups x = Steps.led(1);
        DUES.all("NONE", ShardGroups.NONE, x.poll(0, 0), x.poll(-1, 0), x.poll(12, 0), x.poll(3, -1), x.poll(3, 3),
                x.poll(3, 12), x.poll(4, 3), x.poll(Integer.MIN_VALUE, Integer.MAX_VALUE));
        DUES.due("FOLLOWS before EARLY", x.poll(4, 0), ShardGroups.FOLLOWS);
        Steps.fill(x, 3);
        DUES.due("EARLY before FULL", x.poll(3, 0), ShardGroups.EARLY);
        Steps.change(x, 0, 1, 0);
        DUES.due("FULL", x.poll(3, 0), ShardGroups.FULL);
        DUES.due("nothing written", x.length(3), 80);
        x.crash(0);
        DUES.due("the node of the service is down", x.poll(3, 0), ShardGroups.NONE);
        DUES.due("another one is not", x.poll(3, 1), ShardGroups.FULL);
        x.crash(3);
        DUES.due("the node is down", x.poll(3, 1), ShardGroups.NONE);
    }

    private static void testConfigurationTwice() {
        ShardGroups x = Steps.serving();
        Steps.request(x, 1, 0, 1, 1, 7, 70);
        Steps.change(x, 0, 2, 0);
        x.poll(3, 0);
        x.poll(3, 0);
        Steps.spread(x, 1);
        conditions(x, 3, "33331111");
        DUES.due("configuration", x.configuration(3), 2);
        DUES.due("what stays has what it had", x.value(3, 7), 70);
    }

    private static void testWholeMove() {
        ShardGroups x = Steps.moving();
        conditions(x, 3, "33331111");
        conditions(x, 6, "22220000");
        DUES.due("pull", x.pull(6, 0, 3), 4);
        conditions(x, 6, "22220000");
        x.ship(6, 7);
        conditions(x, 6, "12220000");
        conditions(x, 7, "12220000");
        conditions(x, 8, "00000000");
        DUES.all("values", 55, x.value(6, 0), x.value(7, 0));
        DUES.due("the other key", x.value(6, 8), 7);
        DUES.due("latest", x.latest(6, 0, 0), 4);
        DUES.due("answer", x.answer(6, 0, 0), 55);
        DUES.due("latest of another client", x.latest(6, 2, 0), 9);
        DUES.due("answer of another client", x.answer(6, 2, 0), 7);
        DUES.due("a client that asked nothing", x.latest(6, 1, 0), 0);
        Steps.request(x, 2, 0, 4, 1, 0, 1);
        DUES.due("at most once, there too", x.value(6, 0), 55);
        DUES.due("confirm", x.confirm(3, 0, 6), 6);
        conditions(x, 3, "33331111");
        x.ship(3, 4);
        conditions(x, 3, "03331111");
        conditions(x, 4, "03331111");
        DUES.all("gone", ShardGroups.NONE, x.value(3, 0), x.latest(3, 0, 0), x.answer(3, 0, 0), x.value(3, 8));
        DUES.due("the others are there", x.value(3, 1), 0);
    }

    /** Any node of a group may lead it, and any node of another group may be the one that is asked. */
    private static void testMoveBetweenAllNodes() {
        for (int sender = 3; sender < 12; sender++) {
            for (int receiver = 3; receiver < 12; receiver++) {
                if (sender / 3 != receiver / 3) {
                    moveBetween(sender, receiver);
                }
            }
        }
    }

    private static void moveBetween(int sender, int receiver) {
        String nodes = sender + " to " + receiver;
        ShardGroups x = Steps.led(0);
        Steps.change(x, 0, sender / 3, 0);
        Steps.change(x, 0, receiver / 3, 0);
        x.elect(sender);
        x.elect(receiver);
        adopt(x, sender);
        x.request(sender, 1, 3, 1, 8, 88);
        adopt(x, sender);
        adopt(x, receiver);
        adopt(x, receiver);
        conditions(x, sender, "33331111");
        conditions(x, receiver, "22220000");
        DUES.due("pull, " + nodes, x.pull(receiver, 0, sender), 4);
        Steps.copyAll(x);
        conditions(x, receiver, "12220000");
        DUES.due("confirm, " + nodes, x.confirm(sender, 0, receiver), 5);
        Steps.copyAll(x);
        conditions(x, sender, "03331111");
        for (int i = 0; i < 3; i++) {
            int node = receiver / 3 * 3 + i;
            DUES.due("value, " + nodes, x.value(node, 8), 88);
            DUES.due("latest, " + nodes, x.latest(node, 1, 8), 3);
            DUES.due("answer, " + nodes, x.answer(node, 1, 8), 88);
            DUES.due("gone, " + nodes, x.value(sender / 3 * 3 + i, 8), ShardGroups.NONE);
        }
    }

    private static void adopt(ShardGroups x, int node) {
        x.poll(node, 0);
        Steps.copy(x, node, node / 3 * 3 + (node + 1) % 3);
    }

    /** What both keys and all clients have in it goes along, whichever shard it is. */
    private static void testEveryShardMoves() {
        for (int shard = 0; shard < 8; shard++) {
            ShardGroups x = Steps.serving();
            Steps.request(x, 1, 0, 11, 1, shard, 100 + shard);
            Steps.request(x, 1, 1, 12, 1, shard + 8, 200 + shard);
            Steps.request(x, 1, 2, 13, 2, shard, 300);
            Steps.request(x, 1, 0, 1, 1, (shard + 1) % 8, 999);
            Steps.change(x, 0, 2, 0);
            Steps.change(x, 2, shard, 2);
            for (int i = 0; i < 2; i++) {
                Steps.poll(x, 1);
                Steps.poll(x, 2);
                Steps.poll(x, 2);
                for (int moved = 0; moved < 8; moved++) {
                    Steps.pull(x, 2, moved, 1);
                    Steps.confirm(x, 1, moved, 2);
                }
            }
            DUES.due("it serves there", x.condition(6, shard), 1);
            DUES.due("and is ABSENT here", x.condition(3, shard), 0);
            DUES.due("first key", x.value(6, shard), 400 + shard);
            DUES.due("second key", x.value(6, shard + 8), 200 + shard);
            int[] answers = {100 + shard, 200 + shard, 400 + shard};
            for (int client = 0; client < 3; client++) {
                DUES.due("latest", x.latest(6, client, shard), 11 + client);
                DUES.due("answer", x.answer(6, client, shard), answers[client]);
            }
        }
    }

    /** A node that gets the entries late has each condition in its turn. */
    private static void testEveryNodeCarriesItOut() {
        ShardGroups x = Steps.moving();
        Steps.pull(x, 2, 3, 1);
        Steps.confirm(x, 1, 3, 2);
        String[] sender = {"00000000", "11111111", "11111111", "11111111", "33331111", "33301111"};
        for (int i = 0; i < sender.length; i++) {
            DUES.due("ship to 5", x.ship(3, 5), i + 1);
            conditions(x, 5, sender[i]);
        }
        DUES.due("value", x.value(5, 0), 55);
        String[] receiver = {"00000000", "00000000", "22220000", "22210000"};
        for (int i = 0; i < receiver.length; i++) {
            DUES.due("ship to 8", x.ship(6, 8), i + 1);
            conditions(x, 8, receiver[i]);
        }
        DUES.due("a value that came along", x.value(8, 3), 0);
    }

    /**
     * 6 leads group 2 in term 3 and has an entry alone, so that 7 leads term 4 by the grant of 8; there shard 0
     * comes from group 1, and goes on to group 3, while it is PULLING at 6.
     */
    private static ShardGroups withStaleLeader() {
        ShardGroups x = Steps.moving();
        x.request(6, 0, 1, 0, 0, 0);
        x.elect(7);
        Steps.copy(x, 7, 8);
        for (int shard = 0; shard < 4; shard++) {
            x.pull(7, shard, 3);
        }
        Steps.copy(x, 7, 8);
        for (int shard = 0; shard < 4; shard++) {
            x.confirm(3, shard, 7);
        }
        Steps.spread(x, 1);
        Steps.change(x, 0, 3, 0);
        x.poll(7, 0);
        Steps.copy(x, 7, 8);
        return x;
    }

    private static void testStaleLeaderPulls() {
        ShardGroups x = withStaleLeader();
        DUES.due("6 leads yet", x.term(6), 1003);
        DUES.due("PULLING at 6", x.condition(6, 0), 2);
        DUES.due("in configuration 2", x.configuration(6), 2);
        DUES.due("SENDING at 7", x.condition(7, 0), 3);
        DUES.due("in configuration 3", x.configuration(7), 3);
        int length = x.length(6);
        DUES.due("the other one is further on", x.pull(6, 0, 7), ShardGroups.EARLY);
        DUES.due("and so is 8", x.pull(6, 0, 8), ShardGroups.EARLY);
        DUES.due("nothing is written", x.length(6), length);
    }

    /** Shard 0 goes to group 2 and comes back; 5 is at configuration 1 yet, where it has always served it. */
    private static void testConfirmWithOneThatIsBehind() {
        ShardGroups x = Steps.moving();
        x.ship(3, 5);
        x.ship(3, 5);
        for (int shard = 0; shard < 4; shard++) {
            Steps.pull(x, 2, shard, 1);
            Steps.confirm(x, 1, shard, 2);
        }
        Steps.change(x, 2, 0, 1);
        Steps.poll(x, 1);
        Steps.poll(x, 2);
        DUES.due("SENDING, in configuration 3", x.condition(6, 0) * 10 + x.configuration(6), 33);
        DUES.due("SERVING, in configuration 1", x.condition(5, 0) * 10 + x.configuration(5), 11);
        DUES.due("its number is less, though it serves", x.confirm(6, 0, 5), ShardGroups.EARLY);
        DUES.due("it has not sent it yet, where it is", x.pull(3, 0, 5), ShardGroups.EARLY);
        Steps.pull(x, 1, 0, 2);
        DUES.due("its number is less yet", x.confirm(6, 0, 5), ShardGroups.EARLY);
        DUES.due("there, at 3", x.confirm(6, 0, 3) > 0, true);
    }

    /** 3 is SENDING shard 0 to group 2 in configuration 2, and does not know that its group is further on. */
    private static void testStaleLeaderConfirms() {
        ShardGroups x = Steps.moving();
        x.request(3, 0, 1, 0, 0, 0);
        x.elect(4);
        Steps.copy(x, 4, 5);
        for (int shard = 0; shard < 4; shard++) {
            Steps.pull(x, 2, shard, 1);
            x.confirm(4, shard, 6);
        }
        Steps.copy(x, 4, 5);
        Steps.change(x, 2, 0, 1);
        x.poll(4, 0);
        Steps.copy(x, 4, 5);
        DUES.due("3 leads yet", x.term(3), 1003);
        DUES.due("SENDING at 3", x.condition(3, 0), 3);
        DUES.due("PULLING at 4, in the next configuration", x.condition(4, 0) * 10 + x.configuration(4), 23);
        DUES.due("4 is further on, but of a group that is not the owner", x.confirm(3, 0, 4), ShardGroups.EARLY);
        int length = x.length(3);
        DUES.due("6 has it, in the same configuration", x.confirm(3, 0, 6), length + 1);
        Steps.poll(x, 2);
        DUES.due("6 is SENDING it, in the next one", x.condition(6, 0) * 10 + x.configuration(6), 33);
        DUES.due("6 is further on, so it had it", x.confirm(3, 0, 6), length + 2);
    }

    private static void testPullEarly() {
        ShardGroups x = Steps.serving();
        Steps.change(x, 0, 2, 0);
        Steps.poll(x, 2);
        DUES.due("not PULLING yet", x.pull(6, 0, 3), ShardGroups.EARLY);
        Steps.poll(x, 2);
        DUES.due("PULLING, but not SENDING", x.pull(6, 0, 3), ShardGroups.EARLY);
        Steps.poll(x, 1);
        DUES.due("SENDING, but not at 5", x.pull(6, 0, 5), ShardGroups.EARLY);
        DUES.due("not at a group that never had it", x.pull(6, 0, 9), ShardGroups.EARLY);
        DUES.due("not at one of its own", x.pull(6, 0, 7), ShardGroups.EARLY);
        DUES.due("a shard that does not move", x.pull(6, 4, 3), ShardGroups.EARLY);
        DUES.due("the sender does not pull", x.pull(3, 0, 6), ShardGroups.EARLY);
        DUES.due("nothing written", x.length(6), 3);
        DUES.due("the third shard", x.pull(6, 3, 4), 4);
        testPullFromAnotherConfiguration();
    }

    /** Shard 4 goes from group 1 to 3 in configuration 3, and on to 2 in 4, where group 1 is not yet. */
    private static void testPullFromAnotherConfiguration() {
        ShardGroups x = Steps.moving();
        for (int shard = 0; shard < 4; shard++) {
            Steps.pull(x, 2, shard, 1);
            Steps.confirm(x, 1, shard, 2);
        }
        Steps.change(x, 0, 3, 0);
        Steps.change(x, 2, 4, 2);
        Steps.poll(x, 1);
        DUES.due("4 goes from 1 to 3", x.condition(3, 4), 3);
        Steps.poll(x, 2);
        Steps.poll(x, 3);
        Steps.poll(x, 3);
        Steps.poll(x, 3);
        Steps.pull(x, 3, 4, 1);
        Steps.pull(x, 3, 0, 2);
        Steps.confirm(x, 2, 0, 3);
        Steps.poll(x, 2);
        DUES.due("4 goes from 3 to 2", x.condition(6, 4), 2);
        DUES.due("1 is SENDING it", x.condition(3, 4), 3);
        DUES.due("in another configuration", x.pull(6, 4, 3), ShardGroups.EARLY);
        Steps.poll(x, 3);
        DUES.due("3 is SENDING it in the same", x.pull(6, 4, 9) > 0, true);
        DUES.due("a greater number is enough for 1", x.confirm(3, 4, 9) > 0, true);
    }

    private static void testPullFullAndNone() {
        ShardGroups x = Steps.moving();
        DUES.all("NONE", ShardGroups.NONE, x.pull(0, 0, 3), x.pull(-1, 0, 3), x.pull(12, 0, 3), x.pull(6, 0, 2),
                x.pull(6, 0, -1), x.pull(6, 0, 12), x.pull(6, -1, 3), x.pull(6, 8, 3), x.pull(7, 8, 3),
                x.pull(Integer.MAX_VALUE, Integer.MIN_VALUE, 3));
        DUES.due("FOLLOWS", x.pull(7, 0, 3), ShardGroups.FOLLOWS);
        DUES.due("FOLLOWS before EARLY", x.pull(7, 5, 3), ShardGroups.FOLLOWS);
        Steps.fill(x, 6);
        DUES.due("EARLY before FULL", x.pull(6, 5, 3), ShardGroups.EARLY);
        DUES.due("FULL", x.pull(6, 0, 3), ShardGroups.FULL);
        x.crash(3);
        DUES.due("the other one is down", x.pull(6, 0, 3), ShardGroups.NONE);
        x.crash(6);
        DUES.due("the node is down", x.pull(6, 0, 4), ShardGroups.NONE);
    }

    /** A shard comes back to its sender and changes there: the INSERT of before has what was sent. */
    private static void testInsertIsACopy() {
        ShardGroups x = Steps.moving();
        for (int shard = 0; shard < 4; shard++) {
            Steps.pull(x, 2, shard, 1);
            Steps.confirm(x, 1, shard, 2);
        }
        Steps.change(x, 2, 0, 1);
        Steps.poll(x, 1);
        Steps.poll(x, 2);
        Steps.pull(x, 1, 0, 2);
        Steps.confirm(x, 2, 0, 1);
        Steps.request(x, 1, 0, 50, 1, 0, 500);
        DUES.due("changed at the sender", x.value(3, 0), 500);
        for (int i = 0; i < 4; i++) {
            x.ship(6, 8);
        }
        DUES.due("a node that carries it out late", x.value(8, 0), 55);
        DUES.due("its latest", x.latest(8, 0, 0), 4);
        DUES.due("its answer", x.answer(8, 0, 0), 55);
        DUES.due("gone at the others", x.value(6, 0), ShardGroups.NONE);
    }

    /** Two INSERTs are written; the second comes when the shard serves, and has changed. */
    private static void testInsertTwice() {
        ShardGroups x = Steps.moving();
        x.pull(6, 0, 3);
        x.request(6, 0, 5, 1, 0, 66);
        x.pull(6, 0, 4);
        Steps.spread(x, 2);
        DUES.due("the second INSERT does nothing", x.value(6, 0), 66);
        DUES.due("its latest", x.latest(6, 0, 0), 5);
    }

    private static void testConfirm() {
        ShardGroups x = Steps.moving();
        Steps.pull(x, 2, 0, 1);
        int length = x.length(3);
        DUES.due("not there at 8", x.confirm(3, 0, 8), ShardGroups.EARLY);
        DUES.due("there at 7", x.confirm(3, 0, 7), length + 1);
        DUES.due("there at 6", x.confirm(3, 0, 6), length + 2);
        Steps.spread(x, 1);
        conditions(x, 3, "03331111");
    }

    private static void testConfirmEarly() {
        ShardGroups x = Steps.serving();
        Steps.change(x, 0, 2, 0);
        DUES.due("it serves", x.confirm(3, 0, 6), ShardGroups.EARLY);
        Steps.poll(x, 1);
        DUES.due("the other one has a lesser number", x.confirm(3, 0, 6), ShardGroups.EARLY);
        Steps.poll(x, 2);
        Steps.poll(x, 2);
        DUES.due("the same one, but PULLING", x.confirm(3, 0, 6), ShardGroups.EARLY);
        Steps.pull(x, 2, 0, 1);
        DUES.due("a shard that does not move", x.confirm(3, 4, 6), ShardGroups.EARLY);
        DUES.due("one that is yet to come", x.confirm(3, 1, 6), ShardGroups.EARLY);
        DUES.due("a group that is not the owner", x.confirm(3, 0, 9), ShardGroups.EARLY);
        DUES.due("one of its own", x.confirm(3, 0, 4), ShardGroups.EARLY);
        DUES.due("the one that pulls does not send", x.confirm(6, 0, 3), ShardGroups.EARLY);
        DUES.due("now", x.confirm(3, 0, 6) > 0, true);
        Steps.spread(x, 1);
        DUES.due("gone already, and there", x.confirm(3, 0, 6), ShardGroups.EARLY);
        Steps.change(x, 2, 7, 2);
        for (int i = 0; i < 3; i++) {
            Steps.poll(x, 3);
        }
        DUES.due("further on", x.configuration(9), 3);
        DUES.due("further on, but not the owner", x.confirm(3, 1, 9), ShardGroups.EARLY);
    }

    private static void testConfirmFullAndNone() {
        ShardGroups x = Steps.moving();
        Steps.pull(x, 2, 0, 1);
        DUES.all("NONE", ShardGroups.NONE, x.confirm(0, 0, 6), x.confirm(-1, 0, 6), x.confirm(12, 0, 6),
                x.confirm(3, 0, 2), x.confirm(3, 0, -1), x.confirm(3, 0, 12), x.confirm(3, -1, 6),
                x.confirm(3, 8, 6), x.confirm(4, 8, 6), x.confirm(Integer.MIN_VALUE, Integer.MAX_VALUE, 3));
        DUES.due("FOLLOWS", x.confirm(4, 0, 6), ShardGroups.FOLLOWS);
        DUES.due("FOLLOWS before EARLY", x.confirm(4, 5, 6), ShardGroups.FOLLOWS);
        Steps.fill(x, 3);
        DUES.due("EARLY before FULL", x.confirm(3, 1, 6), ShardGroups.EARLY);
        DUES.due("FULL", x.confirm(3, 0, 6), ShardGroups.FULL);
        x.crash(6);
        DUES.due("the other one is down", x.confirm(3, 0, 6), ShardGroups.NONE);
        x.crash(3);
        DUES.due("the node is down", x.confirm(3, 0, 7), ShardGroups.NONE);
    }

    /** Two DELETEs are written; the second must not harm the shard, which comes back later. */
    private static void testDeleteTwice() {
        ShardGroups x = Steps.moving();
        for (int shard = 0; shard < 4; shard++) {
            Steps.pull(x, 2, shard, 1);
            Steps.confirm(x, 1, shard, 2);
        }
        Steps.change(x, 2, 0, 1);
        Steps.change(x, 2, 0, 2);
        Steps.poll(x, 1);
        Steps.poll(x, 2);
        Steps.pull(x, 1, 0, 2);
        x.confirm(6, 0, 3);
        x.confirm(6, 0, 3);
        Steps.spread(x, 2);
        Steps.poll(x, 1);
        Steps.poll(x, 2);
        DUES.due("SENDING again", x.condition(3, 0), 3);
        DUES.due("PULLING again", x.condition(6, 0), 2);
        Steps.pull(x, 2, 0, 1);
        DUES.due("back again, with what it had", x.value(6, 0), 55);
    }

    private static void testConditionNone() {
        ShardGroups x = Steps.moving();
        DUES.all("NONE", ShardGroups.NONE, x.condition(-1, 0), x.condition(0, 0), x.condition(2, 7),
                x.condition(12, 0), x.condition(3, -1), x.condition(3, 8), x.condition(3, Integer.MIN_VALUE));
        DUES.due("edges", x.condition(11, 7), 0);
        DUES.due("edges", x.condition(3, 0), 3);
    }
}
