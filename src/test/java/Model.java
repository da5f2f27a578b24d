import java.util.ArrayList;
import java.util.Arrays;
import java.util.List;

/**
 * The document once more, told as naively as can be: a state is never kept, but made anew from the known
 * entries whenever it is asked for. An entry is a row of numbers: its term, its kind, and what it says.
 */
final class Model {
    static final int NOTHING = 0;
    static final int CHANGE = 1;
    static final int CONFIGURATION = 2;
    static final int REQUEST = 3;
    static final int INSERT = 4;
    static final int DELETE = 5;

    final boolean[] up = new boolean[12];
    final boolean[] leads = new boolean[12];
    final int[] term = new int[12];
    final int[] known = new int[12];
    final List<List<int[]>> logs = new ArrayList<>();
    boolean knownWasCut;

    Model() {
        Arrays.fill(up, true);
        for (int i = 0; i < 12; i++) {
            logs.add(new ArrayList<>());
        }
    }

    /** The state of a group 1 .. 3: a row of 8 numbers a shard: two values, three numbers, three answers. */
    static final class State {
        int number;
        int[] owners = new int[8];
        int[] condition = new int[8];
        int[][] has = new int[8][8];

        boolean settled() {
            return Arrays.stream(condition).allMatch(c -> c < 2);
        }
    }

    private static boolean in(int x, int low, int high) {
        return low <= x && x <= high;
    }

    private boolean isUp(int node, int low, int high) {
        return in(node, low, high) && up[node];
    }

    private int lastTerm(int node) {
        List<int[]> log = logs.get(node);
        return log.isEmpty() ? 0 : log.get(log.size() - 1)[0];
    }

    private int write(int node, int... kindAndWords) {
        if (logs.get(node).size() >= 80) {
            return -3;
        }
        int[] entry = new int[kindAndWords.length + 1];
        entry[0] = term[node];
        System.arraycopy(kindAndWords, 0, entry, 1, kindAndWords.length);
        logs.get(node).add(entry);
        return logs.get(node).size();
    }

    int crash(int node) {
        if (!isUp(node, 0, 11)) {
            return 0;
        }
        up[node] = false;
        leads[node] = false;
        return 1;
    }

    int recover(int node) {
        if (!in(node, 0, 11) || up[node]) {
            return 0;
        }
        up[node] = true;
        return 1;
    }

    int elect(int n) {
        if (!isUp(n, 0, 11)) {
            return -1;
        }
        int e = term[n] + 1;
        while (e % 3 != n % 3) {
            e++;
        }
        int granted = 0;
        for (int m = 0; m < 12; m++) {
            boolean shorter = lastTerm(n) == lastTerm(m) && logs.get(n).size() < logs.get(m).size();
            if (m / 3 == n / 3 && up[m] && term[m] < e && lastTerm(n) >= lastTerm(m) && !shorter) {
                granted++;
                term[m] = e;
                leads[m] = false;
            }
        }
        if (granted < 2) {
            return 0;
        }
        leads[n] = true;
        write(n, NOTHING);
        return e;
    }

    int ship(int from, int to) {
        if (!isUp(from, 0, 11) || !isUp(to, 0, 11) || from == to || from / 3 != to / 3) {
            return -1;
        }
        if (!leads[from]) {
            return -2;
        }
        if (term[to] > term[from]) {
            leads[from] = false;
            return -5;
        }
        if (term[to] < term[from]) {
            term[to] = term[from];
            leads[to] = false;
        }
        List<int[]> source = logs.get(from);
        List<int[]> target = logs.get(to);
        int same = 0;
        while (same < source.size() && same < target.size() && source.get(same)[0] == target.get(same)[0]) {
            same++;
        }
        while (target.size() > same) {
            target.remove(same);
        }
        knownWasCut |= target.size() < known[to];
        if (same < source.size()) {
            target.add(source.get(same));
        }
        known[from] = Math.max(known[from], agreed(from));
        known[to] = Math.max(known[to], Math.min(known[from], target.size()));
        return target.size();
    }

    private int agreed(int leader) {
        int agreed = 0;
        for (int place = 0; place < logs.get(leader).size(); place++) {
            int copies = 0;
            for (int m = leader / 3 * 3; m < leader / 3 * 3 + 3; m++) {
                copies += logs.get(m).size() > place && logs.get(m).get(place)[0] == term[leader] ? 1 : 0;
            }
            if (copies >= 2) {
                agreed = place + 1;
            }
        }
        return agreed;
    }

    int change(int node, int kind, int a, int b) {
        int group = kind == 2 ? b : a;
        if (!isUp(node, 0, 2) || !in(kind, 0, 2) || !in(group, 1, 3) || (kind == 2 && !in(a, 0, 7))) {
            return -1;
        }
        return leads[node] ? write(node, CHANGE, kind, a, b) : -2;
    }

    int request(int node, int client, int number, int kind, int key, int value) {
        if (!isUp(node, 3, 11) || !in(client, 0, 2) || !in(key, 0, 15) || !in(number, 1, 999)
                || !in(kind, 0, 2) || !in(value, 0, 999)) {
            return -1;
        }
        return leads[node] ? write(node, REQUEST, client, number, kind, key, value) : -2;
    }

    int poll(int node, int service) {
        if (!isUp(node, 3, 11) || !isUp(service, 0, 2)) {
            return -1;
        }
        if (!leads[node]) {
            return -2;
        }
        State state = stateOf(node);
        List<int[]> rows = configurationsOf(service);
        if (!state.settled() || rows.size() <= state.number + 1) {
            return -4;
        }
        int[] words = new int[10];
        words[0] = CONFIGURATION;
        words[1] = state.number + 1;
        System.arraycopy(rows.get(state.number + 1), 0, words, 2, 8);
        return write(node, words);
    }

    int pull(int node, int shard, int other) {
        if (!isUp(node, 3, 11) || !isUp(other, 3, 11) || !in(shard, 0, 7)) {
            return -1;
        }
        if (!leads[node]) {
            return -2;
        }
        State mine = stateOf(node);
        State sender = stateOf(other);
        if (mine.condition[shard] != 2 || sender.condition[shard] != 3 || mine.number != sender.number) {
            return -4;
        }
        int[] words = new int[11];
        words[0] = INSERT;
        words[1] = shard;
        words[2] = mine.number;
        System.arraycopy(sender.has[shard], 0, words, 3, 8);
        return write(node, words);
    }

    int confirm(int node, int shard, int other) {
        if (!isUp(node, 3, 11) || !isUp(other, 3, 11) || !in(shard, 0, 7)) {
            return -1;
        }
        if (!leads[node]) {
            return -2;
        }
        State mine = stateOf(node);
        State receiver = stateOf(other);
        if (mine.condition[shard] != 3 || mine.owners[shard] != other / 3 || receiver.number < mine.number
                || (receiver.number == mine.number && receiver.condition[shard] != 1)) {
            return -4;
        }
        return write(node, DELETE, shard, mine.number);
    }

    int length(int node) {
        return in(node, 0, 11) ? logs.get(node).size() : -1;
    }

    int known(int node) {
        return in(node, 0, 11) ? known[node] : -1;
    }

    int term(int node) {
        return in(node, 0, 11) ? term[node] + (leads[node] ? 1000 : 0) : -1;
    }

    int configuration(int node) {
        if (!in(node, 0, 11)) {
            return -1;
        }
        return node < 3 ? configurationsOf(node).size() - 1 : stateOf(node).number;
    }

    int owner(int node, int c, int shard) {
        if (!in(node, 0, 2) || !in(c, 0, configurationsOf(node).size() - 1) || !in(shard, 0, 7)) {
            return -1;
        }
        return configurationsOf(node).get(c)[shard];
    }

    int condition(int node, int shard) {
        return in(node, 3, 11) && in(shard, 0, 7) ? stateOf(node).condition[shard] : -1;
    }

    int value(int node, int key) {
        return read(node, key, key / 8);
    }

    int latest(int node, int client, int key) {
        return in(client, 0, 2) ? read(node, key, 2 + client) : -1;
    }

    int answer(int node, int client, int key) {
        return in(client, 0, 2) ? read(node, key, 5 + client) : -1;
    }

    private int read(int node, int key, int place) {
        if (!in(node, 3, 11) || !in(key, 0, 15)) {
            return -1;
        }
        State state = stateOf(node);
        return state.condition[key % 8] % 2 == 1 ? state.has[key % 8][place] : -1;
    }

    /** A configuration is a row of 8 owners, and behind them 1 or 0 for each of the groups 0 .. 3. */
    List<int[]> configurationsOf(int node) {
        List<int[]> rows = new ArrayList<>();
        rows.add(new int[12]);
        for (int[] entry : logs.get(node).subList(0, known[node])) {
            int[] next = rows.get(rows.size() - 1).clone();
            if (entry[1] == CHANGE && rows.size() < 16 && changed(next, entry[2], entry[3], entry[4])) {
                rows.add(next);
            }
        }
        return rows;
    }

    private static boolean changed(int[] row, int kind, int a, int b) {
        int members = row[9] + row[10] + row[11];
        if (kind == 2) {
            boolean may = row[8 + b] == 1;
            row[a] = may ? b : row[a];
            return may;
        }
        if (kind == 0 ? row[8 + a] == 1 : row[8 + a] == 0 || members == 1) {
            return false;
        }
        row[8 + a] = kind == 0 ? 1 : 0;
        for (int shard = 0; shard < 8; shard++) {
            if (kind == 0 && members == 0) {
                row[shard] = a;
            } else if (kind == 1 && row[shard] == a) {
                row[shard] = extreme(row, -1);
            }
        }
        balance(row);
        return true;
    }

    private static void balance(int[] row) {
        while (count(row, extreme(row, 1)) >= count(row, extreme(row, -1)) + 2) {
            int most = extreme(row, 1);
            int fewest = extreme(row, -1);
            int shard = 0;
            while (row[shard] != most) {
                shard++;
            }
            row[shard] = fewest;
        }
    }

    private static int count(int[] row, int group) {
        return (int) Arrays.stream(row, 0, 8).filter(owner -> owner == group).count();
    }

    /** The member that owns the most (sign 1) or the fewest (sign -1), of several the least. */
    private static int extreme(int[] row, int sign) {
        int best = 0;
        for (int group = 3; group >= 1; group--) {
            if (row[8 + group] == 1 && (best == 0 || sign * count(row, group) >= sign * count(row, best))) {
                best = group;
            }
        }
        return best;
    }

    State stateOf(int node) {
        State state = new State();
        for (int[] entry : logs.get(node).subList(0, known[node])) {
            switch (entry[1]) {
                case CONFIGURATION -> configure(state, node / 3, entry);
                case REQUEST -> serve(state, entry);
                case INSERT -> {
                    if (state.condition[entry[2]] == 2 && state.number == entry[3]) {
                        state.condition[entry[2]] = 1;
                        state.has[entry[2]] = Arrays.copyOfRange(entry, 4, 12);
                    }
                }
                case DELETE -> {
                    if (state.condition[entry[2]] == 3 && state.number == entry[3]) {
                        state.condition[entry[2]] = 0;
                    }
                }
                default -> { }
            }
        }
        return state;
    }

    private static void configure(State state, int group, int[] entry) {
        if (!state.settled() || entry[2] != state.number + 1) {
            return;
        }
        int[] before = state.owners;
        state.number = entry[2];
        state.owners = Arrays.copyOfRange(entry, 3, 11);
        for (int shard = 0; shard < 8; shard++) {
            boolean had = before[shard] == group;
            boolean has = state.owners[shard] == group;
            if (has && !had) {
                state.condition[shard] = before[shard] == 0 ? 1 : 2;
                state.has[shard] = new int[8];
            }
            if (had && !has) {
                state.condition[shard] = 3;
            }
        }
    }

    private static void serve(State state, int[] entry) {
        int client = entry[2];
        int[] has = state.has[entry[5] % 8];
        if (state.condition[entry[5] % 8] != 1 || entry[3] <= has[2 + client]) {
            return;
        }
        int place = entry[5] / 8;
        int[] afterwards = {has[place], entry[6], (has[place] + entry[6]) % 1000};
        has[place] = afterwards[entry[4]];
        has[2 + client] = entry[3];
        has[5 + client] = has[place];
    }
}
