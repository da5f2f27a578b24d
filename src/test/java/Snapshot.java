import java.util.ArrayList;
import java.util.List;
import java.util.function.Supplier;

/**
 * All that can be read of what a run of calls makes. An object is good for 512 calls, and reading is calls too:
 * so every hundred readings are made on an object of their own, for which the run is made once more.
 */
final class Snapshot {
    private static final int BATCH = 100;
    private static final List<Call> READINGS = readings();

    private final int[] read = new int[READINGS.size()];

    Snapshot(Supplier<ShardGroups> run) {
        ShardGroups x = null;
        for (int i = 0; i < read.length; i++) {
            if (i % BATCH == 0) {
                x = run.get();
            }
            read[i] = READINGS.get(i).on(x);
        }
    }

    /** Tells every reading that is not the one of the other snapshot, but for those of one call. */
    void due(Dues dues, String where, Snapshot other, String but) {
        for (int i = 0; i < read.length; i++) {
            String reading = READINGS.get(i).toString();
            if (read[i] != other.read[i] && !reading.equals(but)) {
                dues.due(where + ": " + reading, read[i], other.read[i]);
            }
        }
    }

    private static List<Call> readings() {
        List<Call> all = new ArrayList<>();
        for (int node = 0; node < 12; node++) {
            all.add(new Call("length", node));
            all.add(new Call("known", node));
            all.add(new Call("term", node));
            all.add(new Call("configuration", node));
        }
        for (int i = 0; i < 3 * 5 * 8; i++) {
            all.add(new Call("owner", i % 3, i / 3 % 5, i / 15));
        }
        for (int node = 3; node < 12; node++) {
            for (int key = 0; key < 16; key++) {
                all.add(new Call("value", node, key));
            }
            for (int shard = 0; shard < 8; shard++) {
                all.add(new Call("condition", node, shard));
                for (int client = 0; client < 3; client++) {
                    all.add(new Call("latest", node, client, shard));
                    all.add(new Call("answer", node, client, shard));
                }
            }
        }
        // Last, for these bring the nodes up that are down, and no reading comes behind them.
        for (int node = 0; node < 12; node++) {
            all.add(new Call("recover", node));
        }
        return all;
    }
}
