import java.util.HashMap;
import java.util.Map;
import java.util.function.Supplier;

/**
 * Calls that must be refused: by the answer that is due, and without a change: all that can be read afterwards
 * is what it was, at once, and when the leaders have copied all that they have.
 */
final class Refusals {
    private final Dues dues;
    private final Map<String, Snapshot> before = new HashMap<>();

    Refusals(Dues dues) {
        this.dues = dues;
    }

    /** The name tells one state from another, so that what can be read of it is read but once. */
    void due(String state, Supplier<ShardGroups> run, Call call, int want) {
        String where = state + ", " + call;
        dues.due(where, call.on(run.get()), want);
        Supplier<ShardGroups> refused = () -> {
            ShardGroups x = run.get();
            call.on(x);
            return x;
        };
        new Snapshot(refused).due(dues, where + ", then", snapshot(state, run), null);
        new Snapshot(copied(refused)).due(dues, where + ", and all is copied, then",
                snapshot(state + " and copied", copied(run)), null);
    }

    private Snapshot snapshot(String state, Supplier<ShardGroups> run) {
        return before.computeIfAbsent(state, name -> new Snapshot(run));
    }

    private static Supplier<ShardGroups> copied(Supplier<ShardGroups> run) {
        return () -> {
            ShardGroups x = run.get();
            Steps.copyAll(x);
            return x;
        };
    }
}
