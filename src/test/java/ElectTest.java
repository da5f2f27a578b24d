/** Promise 4: elect. */
public final class ElectTest {
    private static final Dues DUES = new Dues();

    public static void main(String[] args) {
        testTermsByRemainder();
        testLeastTermAbove();
        testTwoOfThreeGrant();
        testGrantsRemain();
        testLastTermBehind();
        testLengthBehind();
        testEmptyLogs();
        testGreaterTermGrantsNothing();
        testLeaderLosesItsPlace();
        testLeaderAsksAgain();
        testLeaderAloneLeadsNoMore();
        testWrites();
        testFullLog();
        testNone();
        DUES.end();
    }

    private static void testTermsByRemainder() {
        for (int node = 0; node < 12; node++) {
            ShardGroups x = new ShardGroups();
            int least = node % 3 == 0 ? 3 : node % 3;
            DUES.due("first term of " + node, x.elect(node), least);
            DUES.due("it leads", x.term(node), 1000 + least);
            DUES.due("it wrote NOTHING", x.length(node), 1);
            DUES.due("next term of " + node, x.elect(node), least + 3);
            DUES.due("it wrote NOTHING again", x.length(node), 2);
        }
        ShardGroups x = new ShardGroups();
        DUES.due("elect(2)", x.elect(2), 2);
        DUES.due("elect(1), which is behind 2 alone", x.elect(1), 4);
        DUES.due("2 did not grant", x.term(2), 1002);
        DUES.due("0 did", x.term(0), 4);
        DUES.due("only its group", x.term(3), 0);
    }

    /** Every remainder of the term that a node has, and every remainder that it asks for. */
    private static void testLeastTermAbove() {
        int[][] due = {{3, 3, 3, 6, 6}, {1, 4, 4, 4, 7}, {2, 2, 5, 5, 5}};
        for (int node = 0; node < 12; node++) {
            for (int term = 0; term < 5; term++) {
                ShardGroups x = new ShardGroups();
                bringToTerm(x, node, term);
                DUES.due("term of " + node, x.term(node) % 1000, term);
                DUES.due("elect(" + node + ") above " + term, x.elect(node), due[node % 3][term]);
                DUES.due("it leads that", x.term(node), 1000 + due[node % 3][term]);
            }
        }
    }

    /** One node asks as often as it must, so that all three have that term. */
    private static void bringToTerm(ShardGroups x, int node, int term) {
        int first = node / 3 * 3;
        if (term > 3) {
            x.elect(first + term % 3);
        }
        if (term > 0) {
            x.elect(first + term % 3);
        }
    }

    private static void testTwoOfThreeGrant() {
        ShardGroups x = new ShardGroups();
        x.crash(4);
        DUES.due("with two up", x.elect(3), 3);
        DUES.due("one that is down grants nothing", x.term(4), 0);
        DUES.due("one that is up has the term", x.term(5), 3);
        x.crash(5);
        DUES.due("with one up", x.elect(3), 0);
        DUES.due("its own grant remains, it leads no more", x.term(3), 6);
        DUES.due("it wrote nothing", x.length(3), 1);
        x.recover(5);
        DUES.due("with two again", x.elect(3), 9);
    }

    private static void testGrantsRemain() {
        ShardGroups x = new ShardGroups();
        x.elect(0);
        x.crash(2);
        DUES.due("one that is behind the only other one", x.elect(1), 0);
        DUES.due("its term", x.term(1), 4);
        DUES.due("the other one keeps term and place", x.term(0), 1003);
        DUES.due("a term that is too low for one of them", x.elect(1), 0);
        DUES.due("its term grows", x.term(1), 7);
        DUES.due("a term that is not below", x.elect(0), 0);
        DUES.due("its own grant", x.term(0), 6);
        DUES.due("the next one is high enough", x.elect(0), 9);
        DUES.due("the other one granted", x.term(1), 9);
    }

    private static void testLastTermBehind() {
        ShardGroups x = new ShardGroups();
        x.elect(0);
        x.change(0, 0, 1, 0);
        x.change(0, 0, 2, 0);
        x.crash(0);
        DUES.due("elect(1) without the first", x.elect(1), 4);
        x.crash(1);
        x.recover(0);
        DUES.due("without a log, behind the only other one", x.elect(2), 0);
        x.recover(1);
        x.crash(2);
        x.crash(0);
        x.recover(0);
        DUES.due("0 is longer, but its last term is less", x.elect(0), 0);
        DUES.due("its term", x.term(0), 6);
        DUES.due("1 did not grant", x.term(1), 4);
        DUES.due("1 is shorter, but its last term is greater", x.elect(1), 7);
        DUES.due("0 granted, with its longer log", x.term(0), 7);
        DUES.due("its log is as before", x.length(0), 3);
    }

    private static void testLengthBehind() {
        ShardGroups x = new ShardGroups();
        x.elect(6);
        x.request(6, 0, 1, 0, 0, 0);
        x.ship(6, 7);
        x.ship(6, 7);
        x.ship(6, 8);
        x.crash(6);
        DUES.due("the shorter one, same last term", x.elect(8), 0);
        DUES.due("the longer one did not grant", x.term(7), 3);
        DUES.due("the longer one, with too low a term", x.elect(7), 0);
        DUES.due("the longer one", x.elect(7), 7);
        ShardGroups y = new ShardGroups();
        y.elect(6);
        y.ship(6, 7);
        y.ship(6, 8);
        DUES.due("equal logs are not behind", y.elect(8), 5);
        DUES.all("all granted", 5, y.term(6), y.term(7), y.term(8) - 1000);
    }

    /** An empty log's last term is 0: not behind another empty one, behind every other. */
    private static void testEmptyLogs() {
        ShardGroups x = new ShardGroups();
        x.crash(8);
        DUES.due("both are empty", x.elect(6), 3);
        DUES.due("the other one granted", x.term(7), 3);
        DUES.due("an empty one, behind one entry", x.elect(7), 0);
        DUES.due("the one with an entry did not grant", x.term(6), 1003);
        x.crash(6);
        x.recover(8);
        DUES.due("both are empty again", x.elect(7), 7);
        x.crash(7);
        x.recover(6);
        DUES.due("a term below the other one's", x.elect(6), 0);
        DUES.due("one entry, and the other one's log is empty", x.elect(6), 9);
        DUES.due("the empty one granted", x.term(8), 9);
    }

    private static void testGreaterTermGrantsNothing() {
        ShardGroups x = new ShardGroups();
        x.elect(0);
        x.ship(0, 1);
        x.ship(0, 2);
        x.crash(1);
        x.elect(0);
        x.elect(0);
        DUES.due("0 leads", x.term(0), 1009);
        x.recover(1);
        x.crash(2);
        DUES.due("1 asks for a term below", x.elect(1), 0);
        DUES.due("1 has it", x.term(1), 4);
        DUES.due("0 keeps its term, and leads", x.term(0), 1009);
    }

    private static void testLeaderLosesItsPlace() {
        ShardGroups x = new ShardGroups();
        x.elect(9);
        x.ship(9, 10);
        DUES.due("the second one", x.elect(10), 4);
        DUES.due("the first one granted, and leads no more", x.term(9), 4);
        DUES.due("it can't write", x.request(9, 0, 1, 0, 0, 0), ShardGroups.FOLLOWS);
    }

    private static void testLeaderAsksAgain() {
        ShardGroups x = new ShardGroups();
        x.elect(0);
        DUES.due("again", x.elect(0), 6);
        DUES.due("leads the new term", x.term(0), 1006);
        DUES.due("its log", x.length(0), 2);
    }

    private static void testLeaderAloneLeadsNoMore() {
        ShardGroups x = Steps.led(1);
        x.crash(4);
        x.crash(5);
        DUES.due("its own grant is not enough", x.elect(3), 0);
        DUES.due("it has the term, and leads no more", x.term(3), 6);
        DUES.due("nothing is written", x.length(3), 1);
        DUES.due("it can't write", x.request(3, 0, 1, 0, 0, 0), ShardGroups.FOLLOWS);
        DUES.due("the others have their terms yet", x.term(4) + x.term(5), 6);
    }

    /** What is written is one entry of the new term, and does nothing. */
    private static void testWrites() {
        ShardGroups x = Steps.moving();
        int length = x.length(6);
        x.elect(6);
        DUES.due("one entry", x.length(6), length + 1);
        DUES.due("not known before it is shipped", x.known(6), length);
        x.ship(6, 7);
        DUES.due("of the term, so it is known then", x.known(6), length + 1);
        DUES.due("configuration", x.configuration(6), 2);
        DUES.due("conditions", x.condition(6, 0) * 10 + x.condition(6, 7), 20);
        x.elect(0);
        x.ship(0, 1);
        DUES.due("configurations", x.configuration(0), 2);
        ShardGroups y = new ShardGroups();
        y.crash(1);
        y.crash(2);
        DUES.due("without grants", y.elect(0), 0);
        DUES.due("nothing is written", y.length(0), 0);
    }

    private static void testFullLog() {
        ShardGroups x = Steps.led(1);
        Steps.fill(x, 3);
        DUES.due("full", x.length(3), 80);
        DUES.due("elect with a full log", x.elect(3), 6);
        DUES.due("leads", x.term(3), 1006);
        DUES.due("nothing was written", x.length(3), 80);
        ShardGroups y = Steps.led(0);
        for (int i = 1; i < 79; i++) {
            y.change(0, 1, 3, 0);
        }
        DUES.due("79 entries", y.length(0), 79);
        DUES.due("elect with room for one", y.elect(0), 6);
        DUES.due("it is written", y.length(0), 80);
        DUES.due("elect without room", y.elect(0), 9);
        DUES.due("it is not", y.length(0), 80);
    }

    private static void testNone() {
        ShardGroups x = new ShardGroups();
        int[] none = {-1, 12, Integer.MIN_VALUE, Integer.MAX_VALUE};
        for (int node : none) {
            DUES.due("elect(" + node + ")", x.elect(node), ShardGroups.NONE);
        }
        x.crash(1);
        DUES.due("elect of one that is down", x.elect(1), ShardGroups.NONE);
        DUES.all("nothing changed", 0, x.term(0), x.term(1), x.term(2));
        Refusals refusals = new Refusals(DUES);
        for (int node : none) {
            refusals.due("moving", Steps::moving, new Call("elect", node), ShardGroups.NONE);
        }
        for (int node = 0; node < 12; node++) {
            int down = node;
            refusals.due("without " + node, () -> {
                ShardGroups y = Steps.moving();
                y.crash(down);
                return y;
            }, new Call("elect", node), ShardGroups.NONE);
        }
    }
}
