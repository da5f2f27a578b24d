import java.util.List;

/** Promises 6, 14, 15 and the service's state: change, configuration, owner, and how all is balanced. */
public final class ServiceTest {
    private static final Dues DUES = new Dues();

    public static void main(String[] args) {
        testJoins();
        testJoinOrderIsOfGroups();
        testEveryOrderOfJoins();
        testLeave();
        testLeaveOfEach();
        testLeaveWithUnevenMembers();
        testFewestOfSeveral();
        testTwoMoreIsTooMuch();
        testMoveIsNotBalanced();
        testEveryMove();
        testWhatDoesNothing();
        testWhatDoesNothingBalancesNothing();
        testLeaveAndJoinAgain();
        testSixteenConfigurations();
        testTheLastOneByEachKind();
        testCarriedOutByEachNode();
        testDrawnChanges();
        testAnswers();
        testNoneAndOrder();
        testReading();
        DUES.end();
    }

    private static void owners(ShardGroups x, int c, String want) {
        for (int shard = 0; shard < 8; shard++) {
            DUES.due("owner(0, " + c + ", " + shard + ")", x.owner(0, c, shard), want.charAt(shard) - '0');
        }
    }

    private static void testJoins() {
        ShardGroups x = Steps.led(0);
        Steps.change(x, 0, 1, 0);
        Steps.change(x, 0, 2, 0);
        Steps.change(x, 0, 3, 0);
        owners(x, 0, "00000000");
        owners(x, 1, "11111111");
        owners(x, 2, "22221111");
        owners(x, 3, "32223111");
        DUES.due("configuration", x.configuration(0), 3);
    }

    private static void testJoinOrderIsOfGroups() {
        ShardGroups x = Steps.led(0);
        Steps.change(x, 0, 3, 0);
        Steps.change(x, 0, 1, 0);
        Steps.change(x, 0, 2, 0);
        owners(x, 1, "33333333");
        owners(x, 2, "11113333");
        owners(x, 3, "21112333");
    }

    /** The second one gets 0 .. 3 of the first one, and the third one the least of each, 0 and 4. */
    private static void testEveryOrderOfJoins() {
        int[][] orders = {{1, 2, 3}, {1, 3, 2}, {2, 1, 3}, {2, 3, 1}, {3, 1, 2}, {3, 2, 1}};
        for (int[] order : orders) {
            ShardGroups x = Steps.led(0);
            for (int group : order) {
                Steps.change(x, 0, group, 0);
            }
            String row = "" + order[0] + order[1] + order[2];
            owners(x, 0, "00000000");
            owners(x, 1, pick(row, "00000000"));
            owners(x, 2, pick(row, "11110000"));
            owners(x, 3, pick(row, "21112000"));
        }
    }

    private static String pick(String row, String places) {
        StringBuilder text = new StringBuilder();
        for (int i = 0; i < places.length(); i++) {
            text.append(row.charAt(places.charAt(i) - '0'));
        }
        return text.toString();
    }

    private static ShardGroups joined() {
        ShardGroups x = Steps.led(0);
        Steps.change(x, 0, 1, 0);
        Steps.change(x, 0, 2, 0);
        Steps.change(x, 0, 3, 0);
        return x;
    }

    private static void move(ShardGroups x, int to, int... shards) {
        for (int shard : shards) {
            Steps.change(x, 2, shard, to);
        }
    }

    private static void testLeaveOfEach() {
        String[] due = {"32223323", "33133111", "12222111"};
        for (int group = 1; group <= 3; group++) {
            ShardGroups x = joined();
            owners(x, 3, "32223111");
            Steps.change(x, 1, group, 0);
            owners(x, 4, due[group - 1]);
            owners(x, 3, "32223111");
        }
    }

    /** Where several own the fewest, the least group gets the shard: by JOIN, and by LEAVE. */
    private static void testFewestOfSeveral() {
        ShardGroups x = Steps.led(0);
        Steps.change(x, 0, 1, 0);
        Steps.change(x, 0, 2, 0);
        move(x, 1, 0, 1, 2, 3);
        owners(x, 6, "11111111");
        Steps.change(x, 0, 3, 0);
        owners(x, 7, "23232111");
        ShardGroups y = joined();
        move(y, 1, 0, 1, 2, 3, 4);
        owners(y, 8, "11111111");
        Steps.change(y, 1, 1, 0);
        owners(y, 9, "23232323");
        ShardGroups z = joined();
        move(z, 3, 1, 2, 3, 5, 6, 7);
        owners(z, 9, "33333333");
        Steps.change(z, 1, 3, 0);
        owners(z, 10, "12121212");
        ShardGroups w = joined();
        move(w, 2, 0, 4, 5, 6, 7);
        owners(w, 8, "22222222");
        Steps.change(w, 1, 2, 0);
        owners(w, 9, "13131313");
    }

    /** 5 and 3 are balanced, when one leaves that owns nothing; 3, 3 and 2 are balanced already. */
    private static void testTwoMoreIsTooMuch() {
        ShardGroups x = joined();
        owners(x, 3, "32223111");
        move(x, 1, 0, 4);
        owners(x, 5, "12221111");
        Steps.change(x, 1, 3, 0);
        owners(x, 6, "22221111");
        ShardGroups y = joined();
        move(y, 2, 0, 4);
        owners(y, 5, "22222111");
        Steps.change(y, 1, 3, 0);
        owners(y, 6, "12222111");
    }

    private static void testLeave() {
        ShardGroups x = Steps.led(0);
        Steps.change(x, 0, 1, 0);
        Steps.change(x, 0, 2, 0);
        Steps.change(x, 0, 3, 0);
        Steps.change(x, 1, 2, 0);
        owners(x, 4, "33133111");
        Steps.change(x, 1, 1, 0);
        owners(x, 5, "33333333");
        Steps.change(x, 1, 3, 0);
        DUES.due("the only one stays", x.configuration(0), 5);
        ShardGroups y = Steps.led(0);
        Steps.change(y, 0, 1, 0);
        Steps.change(y, 0, 2, 0);
        Steps.change(y, 1, 2, 0);
        owners(y, 3, "11111111");
    }

    private static void testLeaveWithUnevenMembers() {
        ShardGroups x = Steps.led(0);
        Steps.change(x, 0, 1, 0);
        Steps.change(x, 0, 2, 0);
        Steps.change(x, 0, 3, 0);
        Steps.change(x, 2, 1, 3);
        Steps.change(x, 2, 2, 3);
        Steps.change(x, 2, 5, 3);
        Steps.change(x, 2, 6, 3);
        owners(x, 7, "33323331");
        Steps.change(x, 1, 1, 0);
        owners(x, 8, "22323332");
    }

    private static void testMoveIsNotBalanced() {
        ShardGroups x = Steps.led(0);
        Steps.change(x, 0, 1, 0);
        Steps.change(x, 0, 2, 0);
        Steps.change(x, 2, 7, 2);
        Steps.change(x, 2, 6, 2);
        owners(x, 4, "22221122");
        Steps.change(x, 2, 6, 2);
        owners(x, 5, "22221122");
        DUES.due("a move to its owner makes one too", x.configuration(0), 5);
        Steps.change(x, 0, 3, 0);
        owners(x, 6, "33121122");
    }

    private static void testEveryMove() {
        for (int shard = 0; shard < 8; shard++) {
            for (int group = 1; group <= 3; group++) {
                ShardGroups x = joined();
                move(x, group, shard);
                StringBuilder due = new StringBuilder("32223111");
                due.setCharAt(shard, (char) ('0' + group));
                owners(x, 4, due.toString());
                DUES.due("one more, whatever it was before", x.configuration(0), 4);
            }
        }
    }

    private static void testWhatDoesNothing() {
        ShardGroups x = Steps.led(0);
        Steps.change(x, 1, 1, 0);
        Steps.change(x, 2, 0, 1);
        DUES.due("no members yet", x.configuration(0), 0);
        Steps.change(x, 0, 2, 0);
        Steps.change(x, 0, 2, 0);
        Steps.change(x, 1, 2, 0);
        Steps.change(x, 1, 3, 0);
        Steps.change(x, 2, 0, 3);
        DUES.due("only one did something", x.configuration(0), 1);
        DUES.due("all are written", x.length(0), 8);
        DUES.due("all are known", x.known(1), 8);
    }

    /** JOIN of a member, LEAVE of none and MOVE to none make no configuration, and so balance nothing. */
    private static void testWhatDoesNothingBalancesNothing() {
        ShardGroups x = Steps.led(0);
        Steps.change(x, 0, 1, 0);
        Steps.change(x, 0, 2, 0);
        move(x, 1, 0, 1);
        owners(x, 4, "11221111");
        Steps.change(x, 0, 1, 0);
        Steps.change(x, 0, 2, 0);
        Steps.change(x, 1, 3, 0);
        move(x, 3, 0, 7);
        DUES.due("no more than before", x.configuration(0), 4);
        owners(x, 4, "11221111");
        DUES.due("no next one", x.owner(0, 5, 0), ShardGroups.NONE);
    }

    private static void testLeaveAndJoinAgain() {
        ShardGroups x = Steps.led(0);
        Steps.change(x, 0, 3, 0);
        Steps.change(x, 0, 2, 0);
        owners(x, 2, "22223333");
        Steps.change(x, 1, 3, 0);
        owners(x, 3, "22222222");
        move(x, 3, 5);
        Steps.change(x, 1, 3, 0);
        Steps.change(x, 1, 2, 0);
        DUES.due("one that has left is none, and one is left", x.configuration(0), 3);
        Steps.change(x, 0, 3, 0);
        owners(x, 4, "33332222");
        Steps.change(x, 1, 2, 0);
        owners(x, 5, "33333333");
        Steps.change(x, 0, 1, 0);
        owners(x, 6, "11113333");
    }

    private static void testSixteenConfigurations() {
        ShardGroups x = Steps.led(1);
        Steps.change(x, 0, 1, 0);
        Steps.change(x, 0, 2, 0);
        for (int i = 0; i < 20; i++) {
            Steps.change(x, 2, 0, 1 + i % 2);
        }
        DUES.due("the last", x.configuration(0), 15);
        DUES.due("the last at the other node", x.configuration(1), 15);
        DUES.due("owner in the last", x.owner(0, 15, 0), 1);
        DUES.due("owner in the one before", x.owner(0, 14, 0), 2);
        DUES.due("there is no sixteenth", x.owner(0, 16, 0), ShardGroups.NONE);
        Steps.change(x, 0, 3, 0);
        Steps.change(x, 1, 2, 0);
        DUES.due("no more by JOIN and LEAVE", x.configuration(0), 15);
        DUES.due("written all the same", x.length(0), 25);
    }

    /** Number 15 is made by JOIN, by LEAVE and by MOVE; then each of them makes no more. */
    private static void testTheLastOneByEachKind() {
        String[] due = {"32223111", "11111111", "22222111"};
        for (int kind = 0; kind < 3; kind++) {
            ShardGroups x = Steps.led(0);
            Steps.change(x, 0, 1, 0);
            Steps.change(x, 0, 2, 0);
            for (int i = 3; i < 15; i++) {
                move(x, 2, 0);
            }
            DUES.due("fifteen of them", x.configuration(0), 14);
            int[] a = {3, 2, 4};
            Steps.change(x, kind, a[kind], 2);
            DUES.due("sixteen of them", x.configuration(0), 15);
            owners(x, 14, "22221111");
            owners(x, 15, due[kind]);
            Steps.change(x, 0, 3, 0);
            Steps.change(x, 1, 1, 0);
            Steps.change(x, 1, 2, 0);
            move(x, 1, 3);
            DUES.due("no more", x.configuration(0), 15);
            owners(x, 15, due[kind]);
            DUES.due("no number 16", x.owner(0, 16, 0), ShardGroups.NONE);
        }
    }

    /** A node that gets the entries late carries them out one after the other, as the first one did. */
    private static void testCarriedOutByEachNode() {
        ShardGroups x = joined();
        Steps.change(x, 1, 2, 0);
        String[] due = {"00000000", "11111111", "22221111", "32223111", "33133111"};
        for (int c = 0; c < due.length; c++) {
            DUES.due("one entry more", x.ship(0, 2), c + 1);
            DUES.due("one configuration more", x.configuration(2), c);
            for (int shard = 0; shard < 8; shard++) {
                DUES.due("its owners", x.owner(2, c, shard), due[c].charAt(shard) - '0');
            }
        }
        DUES.due("the second node", x.configuration(1), 4);
    }

    /** Rows of changes, drawn by a fixed rule, and what the model makes of them. */
    private static void testDrawnChanges() {
        long seed = 12345;
        for (int run = 0; run < 2000; run++) {
            ShardGroups x = Steps.led(0);
            Model model = new Model();
            model.elect(0);
            model.ship(0, 1);
            for (int i = 0; i < 40; i++) {
                seed = seed * 6364136223846793005L + 1442695040888963407L;
                int drawn = (int) (seed >>> 33);
                int kind = drawn % 5 < 3 ? 2 : drawn % 5 - 3;
                int a = kind == 2 ? drawn / 5 % 8 : 1 + drawn / 5 % 3;
                int b = 1 + drawn / 40 % 3;
                DUES.due("change", x.change(0, kind, a, b), model.change(0, kind, a, b));
                DUES.due("ship", x.ship(0, 1), model.ship(0, 1));
            }
            List<int[]> rows = model.configurationsOf(1);
            DUES.due("drawn configurations", x.configuration(1), rows.size() - 1);
            for (int i = 0; i < 8 * rows.size(); i++) {
                DUES.due("drawn owners", x.owner(1, i / 8, i % 8), rows.get(i / 8)[i % 8]);
            }
        }
    }

    private static void testAnswers() {
        ShardGroups x = Steps.led(0);
        DUES.due("JOIN", x.change(0, 0, 1, -7), 2);
        DUES.due("LEAVE", x.change(0, 1, 3, 99), 3);
        DUES.due("MOVE", x.change(0, 2, 0, 3), 4);
        DUES.due("not known yet", x.configuration(0), 0);
        Steps.fill(x, 0);
        DUES.due("full", x.length(0), 80);
        DUES.due("FULL", x.change(0, 0, 1, 0), ShardGroups.FULL);
        DUES.due("nothing written", x.length(0), 80);
        DUES.due("NONE before FULL", x.change(0, 0, 0, 0), ShardGroups.NONE);
    }

    private static void testNoneAndOrder() {
        ShardGroups x = Steps.led(1);
        DUES.all("NONE", ShardGroups.NONE, x.change(-1, 0, 1, 0), x.change(3, 0, 1, 0), x.change(12, 0, 1, 0),
                x.change(0, -1, 1, 1), x.change(0, 3, 1, 1), x.change(0, 0, 0, 1), x.change(0, 0, 4, 1),
                x.change(0, 1, 0, 1), x.change(0, 1, 4, 1), x.change(0, 1, -1, 1), x.change(0, 2, -1, 1),
                x.change(0, 2, 8, 1), x.change(0, 2, 0, 0), x.change(0, 2, 0, 4), x.change(0, 2, 7, -1),
                x.change(1, 0, 0, 1), x.change(Integer.MIN_VALUE, 0, 1, 0),
                x.change(0, 2, Integer.MIN_VALUE, Integer.MAX_VALUE), x.change(0, Integer.MAX_VALUE, 1, 1));
        DUES.due("edges", x.change(0, 2, 7, 3), 2);
        DUES.due("edges", x.change(0, 0, 3, 0), 3);
        DUES.due("edges", x.change(0, 1, 1, 0), 4);
        DUES.due("edges", x.change(0, 2, 0, 1), 5);
        DUES.due("FOLLOWS", x.change(1, 0, 1, 0), ShardGroups.FOLLOWS);
        x.crash(1);
        DUES.due("down", x.change(1, 0, 1, 0), ShardGroups.NONE);
    }

    private static void testReading() {
        ShardGroups x = Steps.serving();
        DUES.all("no owner", ShardGroups.NONE, x.owner(-1, 0, 0), x.owner(3, 0, 0), x.owner(12, 0, 0),
                x.owner(0, -1, 0), x.owner(0, 2, 0), x.owner(0, 16, 0), x.owner(0, 1, -1), x.owner(0, 1, 8),
                x.owner(2, 1, 0), x.owner(0, Integer.MAX_VALUE, 0), x.owner(0, 0, Integer.MIN_VALUE));
        DUES.due("owner at a node that has it", x.owner(1, 1, 7), 1);
        DUES.due("configuration of a node that is behind", x.configuration(2), 0);
        DUES.due("configuration of another group", x.configuration(3), 1);
        DUES.due("configuration of a group that has not asked", x.configuration(6), 0);
    }
}
