/** Promise 5: ship. */
public final class ShipTest {
    private static final Dues DUES = new Dues();

    public static void main(String[] args) {
        testOneEntryACall();
        testCutting();
        testCuttingALongerLog();
        testOlderTermIsNotEnough();
        testCopiesOfNodesThatAreDown();
        testKnownGoesOnlyAsFarAsTheLog();
        testStale();
        testTermIsTaken();
        testNoneAndOrder();
        DUES.end();
    }

    private static void testOneEntryACall() {
        ShardGroups x = new ShardGroups();
        x.elect(0);
        x.change(0, 0, 1, 0);
        DUES.due("first", x.ship(0, 1), 1);
        DUES.due("known", x.known(0), 1);
        DUES.due("second", x.ship(0, 1), 2);
        DUES.due("no more", x.ship(0, 1), 2);
        DUES.due("known of the leader", x.known(0), 2);
        DUES.due("known of the other one", x.known(1), 2);
        DUES.due("third node", x.ship(0, 2), 1);
        DUES.due("as far as its log goes", x.known(2), 1);
    }

    private static void testCutting() {
        ShardGroups x = new ShardGroups();
        x.elect(0);
        x.change(0, 0, 3, 0);
        x.change(0, 0, 2, 0);
        x.crash(0);
        x.elect(1);
        x.change(1, 0, 1, 0);
        x.ship(1, 2);
        x.ship(1, 2);
        x.recover(0);
        DUES.due("other entries are cut, one is added", x.ship(1, 0), 1);
        DUES.due("its length", x.length(0), 1);
        DUES.due("its known", x.known(0), 1);
        DUES.due("the next", x.ship(1, 0), 2);
        DUES.due("what it carried out", x.owner(0, 1, 5), 1);
        DUES.due("not what it wrote itself", x.configuration(0), 1);
    }

    private static void testCuttingALongerLog() {
        ShardGroups x = new ShardGroups();
        x.elect(3);
        x.ship(3, 4);
        x.ship(3, 5);
        x.request(3, 0, 1, 0, 0, 0);
        x.request(3, 0, 2, 0, 0, 0);
        x.crash(3);
        DUES.due("a shorter one", x.elect(4), 4);
        x.recover(3);
        DUES.due("cut behind the first that are the same", x.ship(4, 3), 2);
        ShardGroups y = Steps.led(1);
        Steps.fill(y, 3);
        Steps.spread(y, 1);
        DUES.due("a full log is copied whole", y.length(4), 80);
        y.elect(4);
        DUES.due("a leader with a full log has nothing to add", y.ship(4, 3), 80);
        DUES.due("and cuts nothing that is the same", y.known(3), 80);
    }

    private static void testOlderTermIsNotEnough() {
        ShardGroups x = new ShardGroups();
        x.elect(3);
        x.crash(4);
        x.crash(5);
        x.request(3, 0, 1, 0, 0, 0);
        x.recover(4);
        x.elect(3);
        DUES.due("its log", x.length(3), 3);
        DUES.due("first of the older term", x.ship(3, 4), 1);
        DUES.due("second of the older term", x.ship(3, 4), 2);
        DUES.all("in two logs, but of an older term", 0, x.known(3), x.known(4));
        DUES.due("one of its term", x.ship(3, 4), 3);
        DUES.all("all up to it", 3, x.known(3), x.known(4));
    }

    private static void testCopiesOfNodesThatAreDown() {
        ShardGroups x = new ShardGroups();
        x.elect(0);
        x.change(0, 0, 1, 0);
        x.ship(0, 1);
        x.ship(0, 1);
        x.crash(1);
        DUES.due("ship to the third one", x.ship(0, 2), 1);
        DUES.due("known of the leader stays", x.known(0), 2);
        DUES.due("known of the third one", x.known(2), 1);
        DUES.due("the next", x.ship(0, 2), 2);
        DUES.due("known then", x.known(2), 2);
    }

    private static void testKnownGoesOnlyAsFarAsTheLog() {
        ShardGroups x = Steps.led(0);
        for (int i = 0; i < 5; i++) {
            Steps.change(x, 0, 1, 0);
        }
        for (int i = 1; i <= 6; i++) {
            DUES.due("ship", x.ship(0, 2), i);
            DUES.due("known", x.known(2), i);
        }
        DUES.due("carried out once", x.configuration(2), 1);
        x.ship(0, 2);
        DUES.due("not more than there is", x.known(2), 6);
    }

    private static void testStale() {
        ShardGroups x = new ShardGroups();
        x.elect(0);
        x.change(0, 0, 1, 0);
        x.crash(2);
        x.elect(1);
        DUES.due("the leader's term is less", x.ship(0, 1), ShardGroups.STALE);
        DUES.due("it leads no more", x.term(0), 3);
        DUES.due("the other one's term", x.term(1), 4);
        DUES.all("nothing is copied", 0, x.length(1), x.known(0));
        DUES.due("and then it follows", x.ship(0, 1), ShardGroups.FOLLOWS);
    }

    private static void testTermIsTaken() {
        ShardGroups x = new ShardGroups();
        x.crash(2);
        x.elect(0);
        x.change(0, 0, 1, 0);
        x.recover(2);
        DUES.due("below", x.term(2), 0);
        x.ship(0, 2);
        DUES.due("taken", x.term(2), 3);
        ShardGroups z = leaderWithOneThatLeadsLess();
        DUES.due("the old one leads yet", z.term(0), 1003);
        z.ship(1, 0);
        DUES.due("it gets a greater term, and leads no more", z.term(0), 4);
    }

    /** 0 leads term 3 with a longer log, 1 leads term 4 by the grants of 1 and 2. */
    private static ShardGroups leaderWithOneThatLeadsLess() {
        ShardGroups x = new ShardGroups();
        x.elect(0);
        x.elect(1);
        return x;
    }

    private static void testNoneAndOrder() {
        ShardGroups x = Steps.led(1);
        DUES.all("no such nodes", ShardGroups.NONE, x.ship(-1, 0), x.ship(0, -1), x.ship(12, 0), x.ship(0, 12),
                x.ship(0, 0), x.ship(0, 3), x.ship(3, 2), x.ship(2, 3), x.ship(-1, -2), x.ship(11, 12),
                x.ship(Integer.MIN_VALUE, 0), x.ship(0, Integer.MAX_VALUE));
        DUES.due("the same, and it does not lead", x.ship(1, 1), ShardGroups.NONE);
        DUES.due("does not lead", x.ship(1, 0), ShardGroups.FOLLOWS);
        x.crash(1);
        DUES.due("to one that is down", x.ship(0, 1), ShardGroups.NONE);
        DUES.due("from one that is down", x.ship(1, 0), ShardGroups.NONE);
        DUES.due("the leader leads yet", x.term(0), 1003);
    }
}
