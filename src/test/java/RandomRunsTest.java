import java.util.Map;
import java.util.TreeMap;

/**
 * Long runs of calls on the class and on the model, which must answer the same. What is called is drawn by a
 * fixed rule, so every run of this test is the same one; most calls are such as bring the groups further.
 */
public final class RandomRunsTest {
    private static final int RUNS = 3000;
    /** The document promises 512 calls; the last of them read what the others made. */
    private static final int STEPS = 406;
    private static final int READS = 100;
    private static final int[] WILD = {-1, -2, 3, 8, 12, 16, 999, 1000, Integer.MIN_VALUE, Integer.MAX_VALUE};

    private static long seed;
    private static final Map<String, Integer> SEEN = new TreeMap<>();
    private static final Dues DUES = new Dues();

    private ShardGroups x;
    private Model model;
    private int run;
    /** One in so many calls crashes or elects at random, and one in so many arguments is wild. */
    private int unrest;
    /** A group that is asked to write much more than the others, so that its log gets full; 4 is none. */
    private int flooded;

    public static void main(String[] args) {
        RandomRunsTest test = new RandomRunsTest();
        for (int run = 1; run <= RUNS; run++) {
            test.start(run);
            if (run % 8 >= 4) {
                test.prepare();
            }
            for (int call = 0; call < STEPS; call++) {
                test.step();
            }
            for (int call = 0; call < READS; call++) {
                test.readWhatIsHeld();
            }
            DUES.due("run " + run + ": what was known has been cut", test.model.knownWasCut, false);
        }
        testThatAllWasSeen();
        DUES.end();
    }

    private void start(int number) {
        run = number;
        seed = number * 7919L;
        x = new ShardGroups();
        model = new Model();
        int[] rests = {6, 25, 100, 400};
        unrest = rests[number % rests.length];
        flooded = draw(10) < 4 ? draw(4) : 4;
    }

    /** Leaders, and a member, so that half of the runs come further than they would by chance. */
    private void prepare() {
        for (int group = 0; group < 4; group++) {
            int node = 3 * group + draw(3);
            same("elect", x.elect(node), model.elect(node), node);
        }
        int leader = leading(0);
        int member = 1 + draw(3);
        same("change", x.change(leader, 0, member, 0), model.change(leader, 0, member, 0), leader, 0, member, 0);
        flooded = draw(8) == 0 ? flooded : 4;
    }

    private static int draw(int bound) {
        seed = seed * 6364136223846793005L + 1442695040888963407L;
        return (int) ((seed >>> 33) % bound);
    }

    private int any(int low, int high) {
        if (draw(4 * unrest) == 0) {
            return WILD[draw(WILD.length)];
        }
        return low + draw(high - low + 1);
    }

    /** A node of a group that leads, if there is one. */
    private int leading(int group) {
        for (int i = 0; i < 3; i++) {
            if (model.leads[3 * group + i] && draw(unrest) != 0) {
                return 3 * group + i;
            }
        }
        return any(3 * group, 3 * group + 2);
    }

    private void step() {
        if (draw(unrest) == 0) {
            disturb();
        } else if (draw(4) == 0) {
            read();
        } else if (draw(3) == 0 && flooded < 4) {
            write(flooded, leading(flooded));
        } else {
            goOn(draw(4));
        }
    }

    private void disturb() {
        int node = any(0, 11);
        switch (draw(4)) {
            case 0 -> same("crash", x.crash(node) ? 1 : 0, model.crash(node), node);
            case 1, 2 -> same("recover", x.recover(node) ? 1 : 0, model.recover(node), node);
            default -> same("elect", x.elect(node), model.elect(node), node);
        }
    }

    private void goOn(int group) {
        int node = leading(group);
        if (node >= 0 && node < 12 && !model.leads[node] && draw(2) == 0) {
            if (model.up[node]) {
                same("elect", x.elect(node), model.elect(node), node);
            } else {
                same("recover", x.recover(node) ? 1 : 0, model.recover(node), node);
            }
        } else if (draw(5) < 3) {
            int to = draw(unrest) == 0 ? any(0, 11) : 3 * group + Math.floorMod(node + 1 + draw(2), 3);
            same("ship", x.ship(node, to), model.ship(node, to), node, to);
        } else if (group == 0) {
            if (draw(5) == 0) {
                write(group, node);
            }
        } else if (draw(unrest) == 0 || node < 3 || node > 11) {
            ask(node, any(0, 7), leading(1 + draw(3)));
        } else {
            askForWhatMoves(node);
        }
    }

    private void write(int group, int node) {
        if (group == 0) {
            writeAChange(node);
        } else {
            writeARequest(node);
        }
    }

    private void writeAChange(int node) {
        int kind = any(0, 2);
        int a = kind == 2 ? any(0, 7) : any(1, 3);
        int b = any(1, 3);
        same("change", x.change(node, kind, a, b), model.change(node, kind, a, b), node, kind, a, b);
    }

    private void ask(int node, int shard, int other) {
        switch (draw(4)) {
            case 0 -> writeARequest(node);
            case 1 -> askTheService(node);
            case 2 -> askForTheShard(node, shard, other);
            default -> askWhetherItIsThere(node, shard, other);
        }
    }

    /** Looks for a shard that is PULLING or SENDING in the node's state, and asks what can bring it on. */
    private void askForWhatMoves(int node) {
        Model.State state = model.stateOf(node);
        int first = draw(8);
        for (int i = 0; i < 8; i++) {
            int shard = (first + i) % 8;
            if (state.condition[shard] == 2) {
                askForTheShard(node, shard, sender(node, shard));
                return;
            }
            if (state.condition[shard] == 3 && draw(4) != 0) {
                askWhetherItIsThere(node, shard, 3 * state.owners[shard] + draw(3));
                return;
            }
        }
        if (draw(3) == 0) {
            writeARequest(node);
        } else {
            askTheService(node);
        }
    }

    private int sender(int node, int shard) {
        int first = draw(9);
        for (int i = 0; i < 9; i++) {
            int other = 3 + (first + i) % 9;
            if (model.stateOf(other).condition[shard] == 3 && other != node) {
                return other;
            }
        }
        return 3 + first;
    }

    private void askTheService(int node) {
        int service = draw(4) == 0 ? any(0, 2) : leading(0);
        same("poll", x.poll(node, service), model.poll(node, service), node, service);
    }

    private void askForTheShard(int node, int shard, int other) {
        same("pull", x.pull(node, shard, other), model.pull(node, shard, other), node, shard, other);
    }

    private void askWhetherItIsThere(int node, int shard, int other) {
        same("confirm", x.confirm(node, shard, other), model.confirm(node, shard, other), node, shard, other);
    }

    private void writeARequest(int node) {
        int client = any(0, 2);
        int number = any(1, draw(8) == 0 ? 999 : 20);
        int kind = any(0, 2);
        int key = any(0, 15);
        int value = any(0, 999);
        same("request", x.request(node, client, number, kind, key, value),
                model.request(node, client, number, kind, key, value), node, client, number, kind, key, value);
    }

    private void read() {
        int node = any(0, 11);
        int store = any(3, 11);
        int client = any(0, 2);
        int key = any(0, 15);
        int shard = any(0, 7);
        int service = any(0, 2);
        int c = any(0, 15);
        switch (draw(9)) {
            case 0 -> same("length", x.length(node), model.length(node), node);
            case 1 -> same("known", x.known(node), model.known(node), node);
            case 2 -> same("term", x.term(node), model.term(node), node);
            case 3 -> same("configuration", x.configuration(node), model.configuration(node), node);
            case 4 -> same("owner", x.owner(service, c, shard), model.owner(service, c, shard), service, c, shard);
            case 5 -> same("condition", x.condition(store, shard), model.condition(store, shard), store, shard);
            case 6 -> same("value", x.value(store, key), model.value(store, key), store, key);
            case 7 -> same("latest", x.latest(store, client, key), model.latest(store, client, key),
                    store, client, key);
            default -> same("answer", x.answer(store, client, key), model.answer(store, client, key),
                    store, client, key);
        }
    }

    private void readWhatIsHeld() {
        int node = 3 + draw(9);
        Model.State state = model.stateOf(node);
        int shard = draw(8);
        for (int i = 0; i < 8 && state.condition[shard] % 2 == 0; i++) {
            shard = (shard + 1) % 8;
        }
        int key = shard + 8 * draw(2);
        int client = draw(3);
        switch (draw(6)) {
            case 0 -> same("condition", x.condition(node, shard), model.condition(node, shard), node, shard);
            case 1 -> same("latest", x.latest(node, client, key), model.latest(node, client, key),
                    node, client, key);
            case 2 -> same("answer", x.answer(node, client, key), model.answer(node, client, key),
                    node, client, key);
            case 3 -> {
                int service = draw(3);
                int c = draw(1 + model.configuration(service));
                same("owner", x.owner(service, c, shard), model.owner(service, c, shard), service, c, shard);
            }
            default -> same("value", x.value(node, key), model.value(node, key), node, key);
        }
        SEEN.merge("highest configuration", state.number, Math::max);
    }

    private void same(String name, int got, int want, int... args) {
        SEEN.merge(name + " " + (want > 0 ? "+" : String.valueOf(want)), 1, Integer::sum);
        if (got != want) {
            DUES.due("run " + run + ": " + name + java.util.Arrays.toString(args), got, want);
        }
    }

    /** Runs that never come to a kind of answer would test nothing there. */
    private static void testThatAllWasSeen() {
        String[] kinds = {"crash 0", "crash +", "recover 0", "recover +", "elect -1", "elect 0", "elect +",
            "ship -1", "ship -2", "ship -5", "ship +", "change -1", "change -2", "change -3", "change +",
            "request -1", "request -2", "request -3", "request +", "poll -1", "poll -2", "poll -3", "poll -4",
            "poll +", "pull -1", "pull -2", "pull -4", "pull +", "confirm -1", "confirm -2", "confirm -4",
            "confirm +", "length -1", "length +", "known -1", "known +", "term -1", "term +", "configuration -1",
            "configuration 0", "configuration +", "owner -1", "owner 0", "owner +", "condition -1", "condition 0",
            "condition +", "value -1", "value 0", "value +", "latest -1", "latest 0", "latest +", "answer -1",
            "answer 0", "answer +"};
        for (String kind : kinds) {
            DUES.due("seen " + kind + " at least 20 times", SEEN.getOrDefault(kind, 0) >= 20, true);
        }
        if (System.getenv("SHOW_SEEN") != null) {
            System.out.println(SEEN);
        }
    }
}
