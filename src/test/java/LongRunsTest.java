/** What an object must hold in its 512 calls: terms, full logs, all configurations. */
public final class LongRunsTest {
    private static final int CALLS = 512;
    private static final Dues DUES = new Dues();

    public static void main(String[] args) {
        testManyTerms();
        testTermsOfOneThatFollows();
        testManyCrashes();
        testManyRefusedCalls();
        testFullLogsOfAllNodes();
        testLogsThatAreCutOverAndOver();
        testFifteenMoves();
        DUES.end();
    }

    private static void testManyTerms() {
        for (int node = 0; node < 12; node++) {
            ShardGroups x = new ShardGroups();
            int term = node % 3 == 0 ? 0 : node % 3 - 3;
            for (int i = 1; i < CALLS; i++) {
                term += 3;
                DUES.due("elect(" + node + "), call " + i, x.elect(node), term);
            }
            DUES.due("the 512th call", x.term(node), 1000 + term);
        }
    }

    /** Terms above 1000 are terms yet; what leads has 1000 more than that. */
    private static void testTermsOfOneThatFollows() {
        ShardGroups x = new ShardGroups();
        for (int i = 0; i < 400; i++) {
            x.elect(5);
        }
        DUES.due("leads", x.term(5), 1000 + 1199);
        DUES.due("granted", x.term(3), 1199);
        DUES.due("length", x.length(5), 80);
        DUES.due("ship", x.ship(5, 3), 1);
        DUES.due("an older term", x.known(5), 0);
        DUES.due("one that is behind both", x.elect(4), 0);
        DUES.due("has its own grant", x.term(4), 1201);
        DUES.due("one that is behind 5 alone", x.elect(3), 0);
        DUES.due("whose term was too low for 4", x.term(3), 1200);
        DUES.due("once more", x.elect(3), 1203);
        DUES.due("leads", x.term(3), 2203);
    }

    private static void testManyCrashes() {
        ShardGroups x = new ShardGroups();
        for (int i = 0; i < CALLS / 4; i++) {
            int node = i % 12;
            DUES.due("crash", x.crash(node), true);
            DUES.due("crash again", x.crash(node), false);
            DUES.due("recover", x.recover(node), true);
            DUES.due("recover again", x.recover(node), false);
        }
    }

    private static void testManyRefusedCalls() {
        ShardGroups x = new ShardGroups();
        for (int i = 0; i < 100; i++) {
            DUES.due("change", x.change(0, 0, 1, 0), ShardGroups.FOLLOWS);
            DUES.due("request", x.request(3, 0, 1, 0, 0, 0), ShardGroups.FOLLOWS);
            DUES.due("poll", x.poll(12, 0), ShardGroups.NONE);
            DUES.due("ship", x.ship(0, 1), ShardGroups.FOLLOWS);
            DUES.due("elect", x.elect(-1), ShardGroups.NONE);
        }
        DUES.due("a first term after 500 calls", x.elect(0), 3);
        DUES.due("a first entry", x.ship(0, 1), 1);
        DUES.due("a second one", x.change(0, 0, 1, 0), 2);
        DUES.due("and its copy", x.ship(0, 1), 2);
        DUES.due("it is carried out", x.configuration(1), 1);
    }

    /** All three logs of two groups: 478 calls. */
    private static void testFullLogsOfAllNodes() {
        ShardGroups x = new ShardGroups();
        int[] leaders = {0, 11};
        for (int leader : leaders) {
            x.elect(leader);
            Steps.fill(x, leader);
        }
        for (int i = 1; i <= 80; i++) {
            DUES.due("ship(0, 1)", x.ship(0, 1), i);
            DUES.due("ship(0, 2)", x.ship(0, 2), i);
            DUES.due("ship(11, 9)", x.ship(11, 9), i);
            DUES.due("ship(11, 10)", x.ship(11, 10), i);
        }
        int[] nodes = {0, 1, 2, 9, 10, 11};
        for (int node : nodes) {
            DUES.due("length", x.length(node), 80);
            DUES.due("known", x.known(node), 80);
        }
        DUES.due("no 81st", x.ship(0, 1), 80);
        DUES.due("no 81st", x.change(0, 0, 1, 0), ShardGroups.FULL);
        DUES.due("no 81st", x.request(11, 0, 1, 0, 0, 0), ShardGroups.FULL);
    }

    /** Two leaders take turns, each without the other's entries, so that one log is cut each time. */
    private static void testLogsThatAreCutOverAndOver() {
        ShardGroups x = Steps.led(0);
        int known = 1;
        for (int i = 0; i < 30; i++) {
            int old = i % 2;
            int next = 1 - old;
            x.change(old, 0, 1, 0);
            x.change(old, 0, 2, 0);
            DUES.due("what is not shipped makes it longer", x.length(old), known + 2);
            x.crash(old);
            int term = x.elect(next);
            x.recover(old);
            DUES.due("the next one leads", x.term(next), 1000 + term);
            DUES.due("two are cut, and one is added", x.ship(next, old), known + 1);
            known++;
            DUES.due("known", x.known(old), known);
            DUES.due("and to the third one", x.ship(next, 2), i == 0 ? 1 : known - 1);
        }
        DUES.due("none of the changes was known", x.configuration(0), 0);
    }

    /** Shard 0 goes to and fro between two groups until there are no more configurations. */
    private static void testFifteenMoves() {
        ShardGroups x = Steps.led(2);
        x.change(0, 0, 1, 0);
        x.change(0, 0, 2, 0);
        x.change(0, 1, 2, 0);
        x.change(0, 0, 2, 0);
        for (int c = 5; c < 16; c++) {
            x.change(0, 2, 0, 1 + c % 2);
        }
        Steps.copy(x, 0, 1);
        DUES.due("all configurations", x.configuration(0), 15);
        Steps.poll(x, 1);
        int moves = 0;
        for (int c = 2; c < 16; c++) {
            x.poll(3, 0);
            x.ship(3, 4);
            while (x.configuration(6) < c && x.poll(6, 1) > 0) {
                x.ship(6, 7);
            }
            moves += moveAll(x, c);
        }
        DUES.due("shards that moved", moves, 4 + 4 + 4 + 10);
        DUES.due("1 is at the last one", x.configuration(3), 15);
        DUES.due("2 is at the last one", x.configuration(6), 15);
        DUES.due("there is no next one", x.poll(3, 0), ShardGroups.EARLY);
        DUES.due("there is no next one", x.poll(6, 0), ShardGroups.EARLY);
        DUES.due("what was added at every place", x.value(6, 0), 11);
        DUES.due("its number", x.latest(6, 0, 0), 11);
        DUES.due("gone at the other one", x.value(3, 0), ShardGroups.NONE);
    }

    /** From configuration 5 on shard 0 alone goes: to group 2 by an odd number, and to 1 by an even one. */
    private static int moveAll(ShardGroups x, int c) {
        boolean there = c < 5 ? c != 3 : c % 2 == 1;
        int from = there ? 3 : 6;
        int to = there ? 6 : 3;
        int moves = 0;
        for (int shard = 0; shard < (c < 5 ? 4 : 1); shard++) {
            if (x.pull(to, shard, from) > 0) {
                x.ship(to, to + 1);
                x.confirm(from, shard, to);
                x.ship(from, from + 1);
                moves++;
            }
        }
        if (c >= 5) {
            x.request(to, 0, c - 4, 2, 0, 1);
            x.ship(to, to + 1);
        }
        return moves;
    }
}
