/** Promises 7 and 17 to 19: request, value, latest, answer. */
public final class RequestTest {
    private static final Dues DUES = new Dues();

    public static void main(String[] args) {
        testKinds();
        testSumsAroundAThousand();
        testEveryKey();
        testAtMostOnce();
        testNumbersAtTheirEdges();
        testGetIsTheLatestToo();
        testClientsAndShardsApart();
        testOnlyWhileServing();
        testConditionWhenCarriedOut();
        testNumbersMoveWithTheShard();
        testOnlyWhatIsKnown();
        testEveryNode();
        testAnswers();
        testNoneAndOrder();
        testReading();
        DUES.end();
    }

    private static void state(ShardGroups x, int client, int key, int value, int latest, int answer) {
        DUES.due("value of " + key, x.value(3, key), value);
        DUES.due("latest of " + client + " for " + key, x.latest(3, client, key), latest);
        DUES.due("answer of " + client + " for " + key, x.answer(3, client, key), answer);
    }

    private static void testKinds() {
        ShardGroups x = Steps.serving();
        state(x, 0, 5, 0, 0, 0);
        Steps.request(x, 1, 0, 1, 0, 5, 77);
        state(x, 0, 5, 0, 1, 0);
        Steps.request(x, 1, 0, 2, 1, 5, 600);
        state(x, 0, 5, 600, 2, 600);
        Steps.request(x, 1, 0, 3, 2, 5, 399);
        state(x, 0, 5, 999, 3, 999);
        Steps.request(x, 1, 0, 4, 2, 5, 1);
        state(x, 0, 5, 0, 4, 0);
        Steps.request(x, 1, 0, 5, 1, 5, 999);
        Steps.request(x, 1, 0, 6, 2, 5, 999);
        state(x, 0, 5, 998, 6, 998);
        Steps.request(x, 1, 0, 999, 0, 5, 3);
        state(x, 0, 5, 998, 999, 998);
    }

    private static void testSumsAroundAThousand() {
        int[][] sums = {{0, 0, 0}, {0, 999, 999}, {999, 0, 999}, {998, 1, 999}, {999, 1, 0}, {1, 999, 0},
            {500, 499, 999}, {500, 500, 0}, {501, 500, 1}, {999, 999, 998}};
        ShardGroups x = Steps.serving();
        for (int i = 0; i < sums.length; i++) {
            Steps.request(x, 1, 0, 2 * i + 1, 1, 6, sums[i][0]);
            state(x, 0, 6, sums[i][0], 2 * i + 1, sums[i][0]);
            Steps.request(x, 1, 0, 2 * i + 2, 2, 6, sums[i][1]);
            state(x, 0, 6, sums[i][2], 2 * i + 2, sums[i][2]);
        }
    }

    /** Key k is in shard k mod 8, with a value of its own; numbers and answers are the shard's. */
    private static void testEveryKey() {
        for (int key = 0; key < 16; key++) {
            ShardGroups x = Steps.serving();
            Steps.request(x, 1, key % 3, 7, 1, key, 100 + key);
            for (int other = 0; other < 16; other++) {
                boolean same = other % 8 == key % 8;
                state(x, key % 3, other, other == key ? 100 + key : 0, same ? 7 : 0, same ? 100 + key : 0);
                state(x, (key + 1) % 3, other, other == key ? 100 + key : 0, 0, 0);
            }
        }
    }

    private static void testNumbersAtTheirEdges() {
        ShardGroups x = Steps.serving();
        Steps.request(x, 1, 0, 1, 2, 3, 5);
        state(x, 0, 3, 5, 1, 5);
        Steps.request(x, 1, 0, 1, 2, 3, 5);
        state(x, 0, 3, 5, 1, 5);
        Steps.request(x, 1, 0, 2, 2, 3, 5);
        state(x, 0, 3, 10, 2, 10);
        Steps.request(x, 1, 0, 998, 2, 3, 5);
        state(x, 0, 3, 15, 998, 15);
        Steps.request(x, 1, 0, 997, 2, 3, 5);
        state(x, 0, 3, 15, 998, 15);
        Steps.request(x, 1, 0, 999, 2, 3, 5);
        state(x, 0, 3, 20, 999, 20);
        Steps.request(x, 1, 0, 999, 2, 3, 5);
        Steps.request(x, 1, 0, 998, 2, 3, 5);
        Steps.request(x, 1, 0, 1, 2, 3, 5);
        state(x, 0, 3, 20, 999, 20);
        Steps.request(x, 1, 1, 1, 2, 3, 5);
        state(x, 1, 3, 25, 1, 25);
    }

    /** GET changes no value, but it takes effect, so that its number counts. */
    private static void testGetIsTheLatestToo() {
        ShardGroups x = Steps.serving();
        Steps.request(x, 1, 0, 1, 1, 9, 40);
        Steps.request(x, 1, 1, 5, 0, 9, 999);
        state(x, 1, 9, 40, 5, 40);
        Steps.request(x, 1, 1, 5, 1, 9, 41);
        Steps.request(x, 1, 1, 4, 2, 9, 41);
        state(x, 1, 9, 40, 5, 40);
        Steps.request(x, 1, 1, 6, 0, 1, 3);
        state(x, 1, 1, 0, 6, 0);
        Steps.request(x, 1, 1, 6, 0, 9, 3);
        state(x, 1, 9, 40, 6, 0);
    }

    private static void testAtMostOnce() {
        ShardGroups x = Steps.serving();
        Steps.request(x, 1, 1, 5, 2, 2, 10);
        Steps.request(x, 1, 1, 5, 2, 2, 10);
        state(x, 1, 2, 10, 5, 10);
        Steps.request(x, 1, 1, 4, 1, 2, 500);
        state(x, 1, 2, 10, 5, 10);
        Steps.request(x, 1, 1, 5, 1, 10, 7);
        state(x, 1, 10, 0, 5, 10);
        Steps.request(x, 1, 1, 6, 1, 10, 7);
        state(x, 1, 10, 7, 6, 7);
        state(x, 1, 2, 10, 6, 7);
    }

    private static void testClientsAndShardsApart() {
        ShardGroups x = Steps.serving();
        Steps.request(x, 1, 0, 8, 1, 3, 30);
        Steps.request(x, 1, 2, 1, 2, 3, 4);
        state(x, 2, 3, 34, 1, 34);
        state(x, 0, 3, 34, 8, 30);
        state(x, 1, 3, 34, 0, 0);
        Steps.request(x, 1, 0, 1, 1, 4, 40);
        state(x, 0, 4, 40, 1, 40);
        state(x, 0, 12, 0, 1, 40);
        state(x, 0, 11, 0, 8, 30);
        state(x, 0, 7, 0, 0, 0);
    }

    private static void testOnlyWhileServing() {
        ShardGroups x = Steps.led(1);
        Steps.request(x, 1, 0, 1, 1, 0, 9);
        Steps.change(x, 0, 1, 0);
        Steps.poll(x, 1);
        state(x, 0, 0, 0, 0, 0);
        ShardGroups y = Steps.moving();
        Steps.request(y, 1, 0, 40, 1, 0, 9);
        state(y, 0, 0, 55, 4, 55);
        Steps.request(y, 2, 0, 40, 1, 0, 9);
        Steps.pull(y, 2, 0, 1);
        DUES.due("not while PULLING", y.latest(6, 0, 0), 4);
        Steps.request(y, 1, 0, 40, 1, 4, 9);
        state(y, 0, 4, 9, 40, 9);
    }

    /** What counts is the condition when the entry is carried out, not when it is written. */
    private static void testConditionWhenCarriedOut() {
        ShardGroups x = Steps.led(2);
        Steps.change(x, 0, 1, 0);
        x.poll(3, 0);
        DUES.due("ABSENT when it is written", x.condition(3, 0), 0);
        x.request(3, 0, 1, 1, 0, 9);
        Steps.spread(x, 1);
        state(x, 0, 0, 9, 1, 9);
        Steps.change(x, 0, 2, 0);
        x.request(3, 0, 2, 1, 0, 10);
        x.poll(3, 0);
        DUES.due("SERVING when it is written", x.condition(3, 0), 1);
        x.request(3, 0, 3, 1, 0, 11);
        x.request(3, 0, 3, 1, 4, 12);
        Steps.spread(x, 1);
        DUES.due("SENDING when it is carried out", x.condition(3, 0), 3);
        state(x, 0, 0, 10, 2, 10);
        state(x, 0, 4, 12, 3, 12);
    }

    /** What took effect in one group does so in no other; what did not, may. */
    private static void testNumbersMoveWithTheShard() {
        ShardGroups x = Steps.moving();
        Steps.pull(x, 2, 0, 1);
        for (int number = 3; number <= 4; number++) {
            Steps.request(x, 2, 0, number, 2, 0, 1);
            DUES.due("not again", x.value(6, 0), 55);
            DUES.due("its answer", x.answer(6, 0, 0), 55);
        }
        Steps.request(x, 2, 2, 9, 2, 0, 1);
        DUES.due("nor by the other client", x.value(6, 0), 55);
        Steps.request(x, 2, 1, 1, 2, 0, 1);
        DUES.due("one that asked nothing yet", x.value(6, 0), 56);
        Steps.request(x, 2, 0, 5, 2, 8, 1);
        DUES.due("the next number", x.value(6, 8), 8);
        DUES.due("its number", x.latest(6, 0, 8), 5);
        DUES.due("the sender has what it had", x.latest(3, 0, 8), 4);
        DUES.due("with its value", x.value(3, 8), 7);
    }

    private static void testEveryNode() {
        for (int node = 3; node < 12; node++) {
            ShardGroups x = new ShardGroups();
            x.elect(0);
            x.elect(node);
            DUES.due("request at " + node, x.request(node, 2, 999, 2, 15, 999), 2);
            int other = node / 3 * 3 + (node + 1) % 3;
            DUES.due("request at " + other, x.request(other, 0, 1, 0, 0, 0), ShardGroups.FOLLOWS);
        }
    }

    private static void testOnlyWhatIsKnown() {
        ShardGroups x = Steps.serving();
        x.request(3, 0, 1, 1, 0, 9);
        state(x, 0, 0, 0, 0, 0);
        x.ship(3, 4);
        state(x, 0, 0, 9, 1, 9);
        DUES.due("the other one has it too", x.value(4, 0), 9);
        DUES.due("the third one has not", x.value(5, 0), ShardGroups.NONE);
        x.ship(3, 5);
        x.ship(3, 5);
        DUES.due("it serves", x.value(5, 0), 0);
        x.ship(3, 5);
        DUES.due("now it has", x.value(5, 0), 9);
        DUES.due("with the number", x.latest(5, 0, 8), 1);
        DUES.due("with the answer", x.answer(5, 0, 8), 9);
    }

    private static void testAnswers() {
        ShardGroups x = Steps.led(1);
        DUES.due("request", x.request(3, 0, 1, 0, 0, 0), 2);
        DUES.due("edges", x.request(3, 2, 999, 2, 15, 999), 3);
        Steps.fill(x, 3);
        DUES.due("full", x.length(3), 80);
        DUES.due("FULL", x.request(3, 0, 1, 0, 0, 0), ShardGroups.FULL);
        DUES.due("nothing written", x.length(3), 80);
        DUES.due("NONE before FULL", x.request(3, 0, 0, 0, 0, 0), ShardGroups.NONE);
    }

    private static void testNoneAndOrder() {
        ShardGroups x = Steps.led(1);
        DUES.all("NONE", ShardGroups.NONE, x.request(-1, 0, 1, 0, 0, 0), x.request(0, 0, 1, 0, 0, 0),
                x.request(2, 0, 1, 0, 0, 0), x.request(12, 0, 1, 0, 0, 0), x.request(3, -1, 1, 0, 0, 0),
                x.request(3, 3, 1, 0, 0, 0), x.request(3, 0, 0, 0, 0, 0), x.request(3, 0, 1000, 0, 0, 0),
                x.request(3, 0, -1, 0, 0, 0), x.request(3, 0, 1, -1, 0, 0), x.request(3, 0, 1, 3, 0, 0),
                x.request(3, 0, 1, 0, -1, 0), x.request(3, 0, 1, 0, 16, 0), x.request(3, 0, 1, 0, 0, -1),
                x.request(3, 0, 1, 0, 0, 1000), x.request(3, 0, 1, 1, 0, 1000), x.request(4, 0, 1, 2, 0, 1000),
                x.request(3, 0, 1, 0, Integer.MIN_VALUE, 0), x.request(3, 0, 1, 0, 0, Integer.MAX_VALUE));
        DUES.due("nothing written", x.length(3), 1);
        DUES.due("FOLLOWS", x.request(4, 0, 1, 0, 0, 0), ShardGroups.FOLLOWS);
        x.crash(4);
        DUES.due("down", x.request(4, 0, 1, 0, 0, 0), ShardGroups.NONE);
    }

    private static void testReading() {
        ShardGroups x = Steps.moving();
        DUES.all("value NONE", ShardGroups.NONE, x.value(-1, 0), x.value(0, 0), x.value(12, 0), x.value(3, -1),
                x.value(3, 16), x.value(6, 0), x.value(6, 4), x.value(9, 0), x.value(3, Integer.MIN_VALUE));
        DUES.all("latest NONE", ShardGroups.NONE, x.latest(-1, 0, 0), x.latest(2, 0, 0), x.latest(12, 0, 0),
                x.latest(3, -1, 0), x.latest(3, 3, 0), x.latest(3, 0, -1), x.latest(3, 0, 16), x.latest(6, 0, 0),
                x.latest(6, 0, 4));
        DUES.all("answer NONE", ShardGroups.NONE, x.answer(-1, 0, 0), x.answer(2, 0, 0), x.answer(12, 0, 0),
                x.answer(3, -1, 0), x.answer(3, 3, 0), x.answer(3, 0, -1), x.answer(3, 0, 16), x.answer(6, 0, 0),
                x.answer(6, 0, 4));
        state(x, 0, 0, 55, 4, 55);
        state(x, 2, 8, 7, 9, 7);
        state(x, 2, 15, 0, 0, 0);
    }
}
