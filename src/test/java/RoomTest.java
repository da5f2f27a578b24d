import java.lang.reflect.Array;
import java.lang.reflect.Field;
import java.lang.reflect.Modifier;
import java.util.ArrayDeque;
import java.util.Collections;
import java.util.Deque;
import java.util.IdentityHashMap;
import java.util.Set;

/**
 * The room that all calls of a run share: 600,000 objects and arrays with 7.3 million fields and elements. The
 * constructor is the dearest call, so 512 objects must fit in; what a run of calls leaves is counted too.
 */
public final class RoomTest {
    private static final Dues DUES = new Dues();
    private static final int CALLS = 512;

    public static void main(String[] args) throws Exception {
        int[] fresh = count(new ShardGroups());
        DUES.due("objects of a new one: " + fresh[0], fresh[0] * CALLS <= 600_000, true);
        DUES.due("elements of a new one: " + fresh[1], fresh[1] * CALLS <= 7_300_000, true);
        int[] used = count(fullLogs());
        int objects = (used[0] - fresh[0]) / CALLS;
        int elements = (used[1] - fresh[1]) / CALLS;
        DUES.due("objects that a call leaves: " + objects, objects <= 10, true);
        DUES.due("elements that a call leaves: " + elements, elements <= 100, true);
        DUES.end();
    }

    /** Many INSERTs, which are the dearest entries, and as many configurations as there may be, in 512 calls. */
    private static ShardGroups fullLogs() {
        ShardGroups x = Steps.moving();
        for (int i = 0; i < 80; i++) {
            x.pull(6, i % 4, 3);
        }
        Steps.copy(x, 6, 7);
        for (int i = 0; i < 16; i++) {
            x.change(0, 2, i % 8, 1 + i % 2);
        }
        Steps.fill(x, 0);
        Steps.copy(x, 0, 1);
        Steps.fill(x, 3);
        return x;
    }

    private static int[] count(Object root) throws Exception {
        Set<Object> seen = Collections.newSetFromMap(new IdentityHashMap<>());
        Deque<Object> open = new ArrayDeque<>();
        open.add(root);
        seen.add(root);
        int elements = 0;
        while (!open.isEmpty()) {
            Object next = open.remove();
            if (next.getClass().isArray()) {
                elements += Array.getLength(next);
                for (int i = 0; i < Array.getLength(next); i++) {
                    visit(Array.get(next, i), next.getClass().getComponentType(), seen, open);
                }
                continue;
            }
            for (Class<?> c = next.getClass(); c != Object.class; c = c.getSuperclass()) {
                for (Field field : c.getDeclaredFields()) {
                    if (!Modifier.isStatic(field.getModifiers())) {
                        elements++;
                        field.setAccessible(true);
                        visit(field.get(next), field.getType(), seen, open);
                    }
                }
            }
        }
        return new int[] {seen.size(), elements};
    }

    private static void visit(Object value, Class<?> type, Set<Object> seen, Deque<Object> open) {
        if (value != null && !type.isPrimitive() && seen.add(value)) {
            open.add(value);
        }
    }
}
