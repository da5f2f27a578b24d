/** Promises 6, 14, 15 and the service's state: change, configuration, owner, and how all is balanced. */
public final class ServiceTest {
    private static final Dues DUES = new Dues();

    public static void main(String[] args) {
        testJoins();
        testJoinOrderIsOfGroups();
        testLeave();
        testLeaveWithUnevenMembers();
        testMoveIsNotBalanced();
        testWhatDoesNothing();
        testSixteenConfigurations();
        testAnswers();
        testNoneAndOrder();
        testReading();
        DUES.end();
    }

    private static void owners(ShardGroups x, int c, String want) {
        for (int shard = 0; shard < 8; shard++) {
            DUES.due("owner(0, " + c + ", " + shard + ")", x.owner(0, c, shard), want.charAt(shard) - '0');
        }
    }

    private static void testJoins() {
        ShardGroups x = Steps.led(0);
        Steps.change(x, 0, 1, 0);
        Steps.change(x, 0, 2, 0);
        Steps.change(x, 0, 3, 0);
        owners(x, 0, "00000000");
        owners(x, 1, "11111111");
        owners(x, 2, "22221111");
        owners(x, 3, "32223111");
        DUES.due("configuration", x.configuration(0), 3);
    }

    private static void testJoinOrderIsOfGroups() {
        ShardGroups x = Steps.led(0);
        Steps.change(x, 0, 3, 0);
        Steps.change(x, 0, 1, 0);
        Steps.change(x, 0, 2, 0);
        owners(x, 1, "33333333");
        owners(x, 2, "11113333");
        owners(x, 3, "21112333");
    }

    private static void testLeave() {
        ShardGroups x = Steps.led(0);
        Steps.change(x, 0, 1, 0);
        Steps.change(x, 0, 2, 0);
        Steps.change(x, 0, 3, 0);
        Steps.change(x, 1, 2, 0);
        owners(x, 4, "33133111");
        Steps.change(x, 1, 1, 0);
        owners(x, 5, "33333333");
        Steps.change(x, 1, 3, 0);
        DUES.due("the only one stays", x.configuration(0), 5);
        ShardGroups y = Steps.led(0);
        Steps.change(y, 0, 1, 0);
        Steps.change(y, 0, 2, 0);
        Steps.change(y, 1, 2, 0);
        owners(y, 3, "11111111");
    }

    private static void testLeaveWithUnevenMembers() {
        ShardGroups x = Steps.led(0);
        Steps.change(x, 0, 1, 0);
        Steps.change(x, 0, 2, 0);
        Steps.change(x, 0, 3, 0);
        Steps.change(x, 2, 1, 3);
        Steps.change(x, 2, 2, 3);
        Steps.change(x, 2, 5, 3);
        Steps.change(x, 2, 6, 3);
        owners(x, 7, "33323331");
        Steps.change(x, 1, 1, 0);
        owners(x, 8, "22323332");
    }

    private static void testMoveIsNotBalanced() {
        ShardGroups x = Steps.led(0);
        Steps.change(x, 0, 1, 0);
        Steps.change(x, 0, 2, 0);
        Steps.change(x, 2, 7, 2);
        Steps.change(x, 2, 6, 2);
        owners(x, 4, "22221122");
        Steps.change(x, 2, 6, 2);
        owners(x, 5, "22221122");
        DUES.due("a move to its owner makes one too", x.configuration(0), 5);
        Steps.change(x, 0, 3, 0);
        owners(x, 6, "33121122");
    }

    private static void testWhatDoesNothing() {
        ShardGroups x = Steps.led(0);
        Steps.change(x, 1, 1, 0);
        Steps.change(x, 2, 0, 1);
        DUES.due("no members yet", x.configuration(0), 0);
        Steps.change(x, 0, 2, 0);
        Steps.change(x, 0, 2, 0);
        Steps.change(x, 1, 2, 0);
        Steps.change(x, 1, 3, 0);
        Steps.change(x, 2, 0, 3);
        DUES.due("only one did something", x.configuration(0), 1);
        DUES.due("all are written", x.length(0), 8);
        DUES.due("all are known", x.known(1), 8);
    }

    private static void testSixteenConfigurations() {
        ShardGroups x = Steps.led(1);
        Steps.change(x, 0, 1, 0);
        Steps.change(x, 0, 2, 0);
        for (int i = 0; i < 20; i++) {
            Steps.change(x, 2, 0, 1 + i % 2);
        }
        DUES.due("the last", x.configuration(0), 15);
        DUES.due("the last at the other node", x.configuration(1), 15);
        DUES.due("owner in the last", x.owner(0, 15, 0), 1);
        DUES.due("owner in the one before", x.owner(0, 14, 0), 2);
        DUES.due("there is no sixteenth", x.owner(0, 16, 0), ShardGroups.NONE);
        Steps.change(x, 0, 3, 0);
        Steps.change(x, 1, 2, 0);
        DUES.due("no more by JOIN and LEAVE", x.configuration(0), 15);
        DUES.due("written all the same", x.length(0), 25);
    }

    private static void testAnswers() {
        ShardGroups x = Steps.led(0);
        DUES.due("JOIN", x.change(0, 0, 1, -7), 2);
        DUES.due("LEAVE", x.change(0, 1, 3, 99), 3);
        DUES.due("MOVE", x.change(0, 2, 0, 3), 4);
        DUES.due("not known yet", x.configuration(0), 0);
        Steps.fill(x, 0);
        DUES.due("full", x.length(0), 80);
        DUES.due("FULL", x.change(0, 0, 1, 0), ShardGroups.FULL);
        DUES.due("nothing written", x.length(0), 80);
        DUES.due("NONE before FULL", x.change(0, 0, 0, 0), ShardGroups.NONE);
    }

    private static void testNoneAndOrder() {
        ShardGroups x = Steps.led(1);
        DUES.all("NONE", ShardGroups.NONE, x.change(-1, 0, 1, 0), x.change(3, 0, 1, 0), x.change(12, 0, 1, 0),
                x.change(0, -1, 1, 1), x.change(0, 3, 1, 1), x.change(0, 0, 0, 1), x.change(0, 0, 4, 1),
                x.change(0, 1, 0, 1), x.change(0, 1, 4, 1), x.change(0, 1, -1, 1), x.change(0, 2, -1, 1),
                x.change(0, 2, 8, 1), x.change(0, 2, 0, 0), x.change(0, 2, 0, 4), x.change(0, 2, 7, -1),
                x.change(1, 0, 0, 1), x.change(Integer.MIN_VALUE, 0, 1, 0),
                x.change(0, 2, Integer.MIN_VALUE, Integer.MAX_VALUE), x.change(0, Integer.MAX_VALUE, 1, 1));
        DUES.due("edges", x.change(0, 2, 7, 3), 2);
        DUES.due("edges", x.change(0, 0, 3, 0), 3);
        DUES.due("edges", x.change(0, 1, 1, 0), 4);
        DUES.due("edges", x.change(0, 2, 0, 1), 5);
        DUES.due("FOLLOWS", x.change(1, 0, 1, 0), ShardGroups.FOLLOWS);
        x.crash(1);
        DUES.due("down", x.change(1, 0, 1, 0), ShardGroups.NONE);
    }

    private static void testReading() {
        ShardGroups x = Steps.serving();
        DUES.all("no owner", ShardGroups.NONE, x.owner(-1, 0, 0), x.owner(3, 0, 0), x.owner(12, 0, 0),
                x.owner(0, -1, 0), x.owner(0, 2, 0), x.owner(0, 16, 0), x.owner(0, 1, -1), x.owner(0, 1, 8),
                x.owner(2, 1, 0), x.owner(0, Integer.MAX_VALUE, 0), x.owner(0, 0, Integer.MIN_VALUE));
        DUES.due("owner at a node that has it", x.owner(1, 1, 7), 1);
        DUES.due("configuration of a node that is behind", x.configuration(2), 0);
        DUES.due("configuration of another group", x.configuration(3), 1);
        DUES.due("configuration of a group that has not asked", x.configuration(6), 0);
    }
}
