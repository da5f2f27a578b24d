/** Promise 5: ship. */
public final class ShipTest {
    private static final Dues DUES = new Dues();

    public static void main(String[] args) {
        testOneEntryACall();
        testCutting();
        testCuttingALongerLog();
        testCutsInEveryPlace();
        testOlderTermIsNotEnough();
        testKnownOfANewLeaderStays();
        testFullLogOfOlderTerms();
        testEntriesKeepTheirTerms();
        testCopiesOfNodesThatAreDown();
        testKnownGoesOnlyAsFarAsTheLog();
        testStale();
        testStaleChangesOnlyLeading();
        testTermIsTaken();
        testEveryPair();
        testNoneAndOrder();
        testRefusedCallsChangeNothing();
        DUES.end();
    }

    private static void testOneEntryACall() {
        ShardGroups x = new ShardGroups();
        x.elect(0);
        x.change(0, 0, 1, 0);
        DUES.due("first", x.ship(0, 1), 1);
        DUES.due("known", x.known(0), 1);
        DUES.due("second", x.ship(0, 1), 2);
        DUES.due("no more", x.ship(0, 1), 2);
        DUES.due("known of the leader", x.known(0), 2);
        DUES.due("known of the other one", x.known(1), 2);
        DUES.due("third node", x.ship(0, 2), 1);
        DUES.due("as far as its log goes", x.known(2), 1);
    }

    private static void testCutting() {
        ShardGroups x = new ShardGroups();
        x.elect(0);
        x.change(0, 0, 3, 0);
        x.change(0, 0, 2, 0);
        x.crash(0);
        x.elect(1);
        x.change(1, 0, 1, 0);
        x.ship(1, 2);
        x.ship(1, 2);
        x.recover(0);
        DUES.due("other entries are cut, one is added", x.ship(1, 0), 1);
        DUES.due("its length", x.length(0), 1);
        DUES.due("its known", x.known(0), 1);
        DUES.due("the next", x.ship(1, 0), 2);
        DUES.due("what it carried out", x.owner(0, 1, 5), 1);
        DUES.due("not what it wrote itself", x.configuration(0), 1);
    }

    private static void testCuttingALongerLog() {
        ShardGroups x = new ShardGroups();
        x.elect(3);
        x.ship(3, 4);
        x.ship(3, 5);
        x.request(3, 0, 1, 0, 0, 0);
        x.request(3, 0, 2, 0, 0, 0);
        x.crash(3);
        DUES.due("a shorter one", x.elect(4), 4);
        x.recover(3);
        DUES.due("cut behind the first that are the same", x.ship(4, 3), 2);
        ShardGroups y = Steps.led(1);
        Steps.fill(y, 3);
        Steps.spread(y, 1);
        DUES.due("a full log is copied whole", y.length(4), 80);
        y.elect(4);
        DUES.due("a leader with a full log has nothing to add", y.ship(4, 3), 80);
        DUES.due("and cuts nothing that is the same", y.known(3), 80);
    }

    /**
     * 0 leads term 3 and has `common` entries that 1 has too, and 2 more; 1 leads term 4 by the grant of 2. What
     * 0 has behind the common ones is cut, and one entry is added, then one a call.
     */
    private static void testCutsInEveryPlace() {
        for (int common = 0; common < 4; common++) {
            ShardGroups x = new ShardGroups();
            x.elect(0);
            for (int i = 0; i < common + 1; i++) {
                x.change(0, 0, 1 + i % 3, 0);
            }
            for (int i = 0; i < common; i++) {
                x.ship(0, 1);
            }
            DUES.due("length of 0", x.length(0), common + 2);
            DUES.due("elect(1)", x.elect(1), 4);
            x.change(1, 0, 3, 0);
            DUES.due("length of 1", x.length(1), common + 2);
            DUES.due("cut, and one is added", x.ship(1, 0), common + 1);
            DUES.due("so long is its log", x.length(0), common + 1);
            DUES.due("known of both", x.known(0) + x.known(1), 2 * (common + 1));
            DUES.due("the next", x.ship(1, 0), common + 2);
            DUES.due("there is no next", x.ship(1, 0), common + 2);
            DUES.due("known", x.known(0), common + 2);
            DUES.due("the same state", x.configuration(0), x.configuration(1));
            DUES.due("to the third one, from the first entry on", x.ship(1, 2), 1);
        }
    }

    private static void testOlderTermIsNotEnough() {
        ShardGroups x = new ShardGroups();
        x.elect(3);
        x.crash(4);
        x.crash(5);
        x.request(3, 0, 1, 0, 0, 0);
        x.recover(4);
        x.elect(3);
        DUES.due("its log", x.length(3), 3);
        DUES.due("first of the older term", x.ship(3, 4), 1);
        DUES.due("second of the older term", x.ship(3, 4), 2);
        DUES.all("in two logs, but of an older term", 0, x.known(3), x.known(4));
        DUES.due("one of its term", x.ship(3, 4), 3);
        DUES.all("all up to it", 3, x.known(3), x.known(4));
    }

    /** What was known stays, though no entry of the new term is in two logs yet. */
    private static void testKnownOfANewLeaderStays() {
        ShardGroups x = Steps.led(0);
        Steps.change(x, 0, 1, 0);
        Steps.change(x, 0, 2, 0);
        x.crash(0);
        DUES.due("1 leads", x.elect(1), 4);
        DUES.due("known as before", x.known(1), 3);
        for (int i = 1; i < 4; i++) {
            DUES.due("one of an older term", x.ship(1, 2), i);
            DUES.due("known of the leader is not less", x.known(1), 3);
            DUES.due("the other one knows as far as its log goes", x.known(2), i);
            DUES.due("its configuration", x.configuration(2), i - 1);
        }
        DUES.due("one of its term", x.ship(1, 2), 4);
        DUES.all("is known", 4, x.known(1), x.known(2));
        DUES.due("the one that is down knows nothing of it", x.known(0), 3);
        x.recover(0);
        DUES.due("until it is shipped to", x.ship(1, 0), 4);
        DUES.due("and then it does", x.known(0), 4);
    }

    /** A leader that could write nothing has no entry of its term, so it gets to know no more. */
    private static void testFullLogOfOlderTerms() {
        ShardGroups x = Steps.led(1);
        Steps.fill(x, 3);
        DUES.due("full, and a new term", x.elect(3), 6);
        for (int i = 2; i <= 80; i++) {
            DUES.due("ship", x.ship(3, 4), i);
        }
        DUES.due("all is copied", x.length(4), 80);
        DUES.due("known of the leader", x.known(3), 1);
        DUES.due("known of the other one", x.known(4), 1);
        DUES.due("once more", x.ship(3, 4), 80);
        DUES.all("known stays", 1, x.known(3), x.known(4));
        DUES.due("to the third one", x.ship(3, 5), 1);
        DUES.due("what it knows", x.known(5), 1);
    }

    /** An entry that a later leader copies has the term of the node that wrote it, so it can be behind. */
    private static void testEntriesKeepTheirTerms() {
        ShardGroups x = new ShardGroups();
        x.elect(0);
        x.change(0, 0, 1, 0);
        x.elect(0);
        DUES.due("the first entry, of term 3, by the leader of 6", x.ship(0, 1), 1);
        DUES.due("it is not known", x.known(0), 0);
        DUES.due("the second one", x.ship(0, 1), 2);
        x.crash(0);
        DUES.due("1 has term 3 last, and 2 has nothing", x.elect(1), 7);
        x.crash(2);
        x.recover(0);
        DUES.due("0 has term 6 last, which is less than 7", x.elect(0), 0);
        DUES.due("1 did not grant", x.term(1), 1007);
        x.crash(0);
        x.recover(0);
        DUES.due("1 asks again", x.elect(1), 10);
        DUES.due("3 and 3 are the same, 6 and 7 are not", x.ship(1, 0), 3);
        DUES.due("nothing of 10 is there yet", x.known(1), 0);
        DUES.due("that of 10", x.ship(1, 0), 4);
        DUES.all("now all is known", 4, x.known(0), x.known(1));
        DUES.due("and carried out", x.owner(0, 1, 0), 1);
    }

    private static void testCopiesOfNodesThatAreDown() {
        ShardGroups x = new ShardGroups();
        x.elect(0);
        x.change(0, 0, 1, 0);
        x.ship(0, 1);
        x.ship(0, 1);
        x.crash(1);
        DUES.due("ship to the third one", x.ship(0, 2), 1);
        DUES.due("known of the leader stays", x.known(0), 2);
        DUES.due("known of the third one", x.known(2), 1);
        DUES.due("the next", x.ship(0, 2), 2);
        DUES.due("known then", x.known(2), 2);
    }

    private static void testKnownGoesOnlyAsFarAsTheLog() {
        ShardGroups x = Steps.led(0);
        for (int i = 0; i < 5; i++) {
            Steps.change(x, 0, 1, 0);
        }
        for (int i = 1; i <= 6; i++) {
            DUES.due("ship", x.ship(0, 2), i);
            DUES.due("known", x.known(2), i);
        }
        DUES.due("carried out once", x.configuration(2), 1);
        x.ship(0, 2);
        DUES.due("not more than there is", x.known(2), 6);
    }

    private static void testStale() {
        ShardGroups x = new ShardGroups();
        x.elect(0);
        x.change(0, 0, 1, 0);
        x.crash(2);
        x.elect(1);
        DUES.due("the leader's term is less", x.ship(0, 1), ShardGroups.STALE);
        DUES.due("it leads no more", x.term(0), 3);
        DUES.due("the other one's term", x.term(1), 4);
        DUES.all("nothing is copied", 0, x.length(1), x.known(0));
        DUES.due("and then it follows", x.ship(0, 1), ShardGroups.FOLLOWS);
    }

    /** 0 leads term 3, and does not know that 1 leads 4 by the grant of 2. */
    private static ShardGroups stale() {
        ShardGroups x = Steps.moving();
        x.change(0, 0, 3, 0);
        x.elect(1);
        x.change(1, 1, 2, 0);
        return x;
    }

    private static void testStaleChangesOnlyLeading() {
        for (int to = 1; to < 3; to++) {
            Call ship = new Call("ship", 0, to);
            ShardGroups x = stale();
            DUES.due("it leads before", x.term(0), 1003);
            DUES.due("stale, " + ship, ship.on(x), ShardGroups.STALE);
            DUES.due("it leads no more", x.term(0), 3);
            DUES.due("it can't write", x.change(0, 0, 3, 0), ShardGroups.FOLLOWS);
            DUES.due("it can't ship", ship.on(x), ShardGroups.FOLLOWS);
            new Snapshot(() -> {
                ShardGroups y = stale();
                ship.on(y);
                return y;
            }).due(DUES, "stale, " + ship + ", then", new Snapshot(ShipTest::stale), "term(0)");
        }
    }

    private static void testTermIsTaken() {
        ShardGroups x = new ShardGroups();
        x.crash(2);
        x.elect(0);
        x.change(0, 0, 1, 0);
        x.recover(2);
        DUES.due("below", x.term(2), 0);
        x.ship(0, 2);
        DUES.due("taken", x.term(2), 3);
        ShardGroups z = leaderWithOneThatLeadsLess();
        DUES.due("the old one leads yet", z.term(0), 1003);
        z.ship(1, 0);
        DUES.due("it gets a greater term, and leads no more", z.term(0), 4);
    }

    /** 0 leads term 3 with a longer log, 1 leads term 4 by the grants of 1 and 2. */
    private static ShardGroups leaderWithOneThatLeadsLess() {
        ShardGroups x = new ShardGroups();
        x.elect(0);
        x.elect(1);
        return x;
    }

    private static void testEveryPair() {
        for (int from = 0; from < 12; from++) {
            ShardGroups x = new ShardGroups();
            x.elect(from);
            for (int to = 0; to < 12; to++) {
                int due = from / 3 == to / 3 && from != to ? 1 : ShardGroups.NONE;
                DUES.due("ship(" + from + ", " + to + ") of one that leads", x.ship(from, to), due);
                due = from / 3 == to / 3 && from != to ? ShardGroups.FOLLOWS : ShardGroups.NONE;
                DUES.due("ship(" + to + ", " + from + ") of one that does not", x.ship(to, from), due);
            }
        }
    }

    private static ShardGroups staleWithout(int node) {
        ShardGroups x = stale();
        x.crash(node);
        return x;
    }

    /** Each case of NONE where the first one leads, where it follows, and where its term is less. */
    private static void testRefusedCallsChangeNothing() {
        Refusals refusals = new Refusals(DUES);
        int[] wrong = {-1, 3, 5, 12, Integer.MIN_VALUE, Integer.MAX_VALUE};
        for (int node = 0; node < 3; node++) {
            for (int other : wrong) {
                refusals.due("stale", ShipTest::stale, new Call("ship", node, other), ShardGroups.NONE);
                refusals.due("stale", ShipTest::stale, new Call("ship", other, node), ShardGroups.NONE);
            }
            refusals.due("stale", ShipTest::stale, new Call("ship", node, node), ShardGroups.NONE);
        }
        for (int down = 0; down < 3; down++) {
            for (int i = 1; i < 3; i++) {
                int gone = down;
                int other = (down + i) % 3;
                refusals.due("stale without " + down, () -> staleWithout(gone), new Call("ship", down, other),
                        ShardGroups.NONE);
                refusals.due("stale without " + down, () -> staleWithout(gone), new Call("ship", other, down),
                        ShardGroups.NONE);
            }
        }
        refusals.due("stale", ShipTest::stale, new Call("ship", 2, 0), ShardGroups.FOLLOWS);
        refusals.due("stale", ShipTest::stale, new Call("ship", 2, 1), ShardGroups.FOLLOWS);
        refusals.due("moving", Steps::moving, new Call("ship", 4, 3), ShardGroups.FOLLOWS);
    }

    private static void testNoneAndOrder() {
        ShardGroups x = Steps.led(1);
        DUES.all("no such nodes", ShardGroups.NONE, x.ship(-1, 0), x.ship(0, -1), x.ship(12, 0), x.ship(0, 12),
                x.ship(0, 0), x.ship(0, 3), x.ship(3, 2), x.ship(2, 3), x.ship(-1, -2), x.ship(11, 12),
                x.ship(Integer.MIN_VALUE, 0), x.ship(0, Integer.MAX_VALUE));
        DUES.due("the same, and it does not lead", x.ship(1, 1), ShardGroups.NONE);
        DUES.due("does not lead", x.ship(1, 0), ShardGroups.FOLLOWS);
        x.crash(1);
        DUES.due("to one that is down", x.ship(0, 1), ShardGroups.NONE);
        DUES.due("from one that is down", x.ship(1, 0), ShardGroups.NONE);
        DUES.due("the leader leads yet", x.term(0), 1003);
    }
}
