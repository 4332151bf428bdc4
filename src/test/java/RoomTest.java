import com.sun.management.ThreadMXBean;
import java.lang.management.ManagementFactory;
import java.lang.reflect.Array;
import java.lang.reflect.Field;
import java.lang.reflect.Modifier;
import java.util.Collections;
import java.util.IdentityHashMap;
import java.util.Set;

/** A new object bears all its rows, no call makes any, and 512 of what is made at once fit into the room. */
public final class RoomTest {
    private static final Checks CHECKS = new Checks("RoomTest");
    private static final ThreadMXBean BEAN = (ThreadMXBean) ManagementFactory.getThreadMXBean();
    private static final int CALLS = 512, ROOM_OBJECTS = 600_000, ROOM_CELLS = 7_300_000;

    public static void main(String[] args) throws IllegalAccessException {
        bytes();
        objects();
        CHECKS.close();
    }

    /** From the constructor on, the first spy() too, nothing is made. */
    private static void bytes() {
        long least = Long.MAX_VALUE;
        // The machine makes things of its own now and then; what the calls make comes each time.
        for (int i = 0; i < 6; i++) {
            DustSums x = new DustSums();
            long ready = allocated();
            int answers = callAll(x);
            least = Math.min(least, allocated() - ready);
            CHECKS.due("answers", answers == 0 ? 0 : 1, 1);
        }
        CHECKS.due("bytes that calls make", least, 0);
    }

    /** What an object holds is what it held when it was made, and all calls could make as much within the room. */
    private static void objects() throws IllegalAccessException {
        DustSums x = new DustSums();
        Set<Object> made = Collections.newSetFromMap(new IdentityHashMap<>());
        long cells = cellsOf(x, made, 0);
        CHECKS.due("the rows of spies are counted in " + cells, cells > 8192 ? 1 : 0, 1);
        CHECKS.due(cells + " fields and elements of a new object", cells * CALLS <= ROOM_CELLS ? 1 : 0, 1);
        CHECKS.due(made.size() + " objects and arrays", made.size() * CALLS <= ROOM_OBJECTS ? 1 : 0, 1);
        callAll(x);
        Set<Object> held = Collections.newSetFromMap(new IdentityHashMap<>());
        CHECKS.due("fields and elements after all calls", cellsOf(x, held, 0), cells);
        CHECKS.due("the same objects after all calls", held.equals(made) ? 1 : 0, 1);
    }

    /** Fields and elements of an object and of all that it holds, each counted once. */
    private static long cellsOf(Object one, Set<Object> counted, int depth) throws IllegalAccessException {
        if (one == null || depth > 40 || !counted.add(one)) return 0;
        if (one.getClass().isArray()) return cellsOfArray(one, counted, depth);
        long cells = 0;
        for (Field field : one.getClass().getDeclaredFields()) {
            if (Modifier.isStatic(field.getModifiers())) continue;
            cells++;
            if (field.getType().isPrimitive()) continue;
            field.setAccessible(true);
            cells += cellsOf(field.get(one), counted, depth + 1);
        }
        return cells;
    }

    private static long cellsOfArray(Object row, Set<Object> counted, int depth) throws IllegalAccessException {
        long cells = Array.getLength(row);
        if (row.getClass().getComponentType().isPrimitive()) return cells;
        for (Object inside : (Object[]) row) cells += cellsOf(inside, counted, depth + 1);
        return cells;
    }

    private static int callAll(DustSums x) {
        int answers = x.spy(0, 1);
        Checks.load(x, "in A 0;in B 1;mul C A B;sub D C A;sub E D A;sub F E A;out F;");
        answers += x.modulus(2) + x.input(0, 1, 2) + x.input(1, 1, 1);
        for (int i = 0; i < 17; i++) answers += callEach(x, i);
        return answers;
    }

    private static int callEach(DustSums x, int i) {
        int answers = 0;
        x.type(0x636F6E20413030L, 7);
        answers += x.program() + x.clear() + x.modulus(2) + x.input(0, 0, i % 2) + x.lot(i, i % 16) + x.trade(i % 3, i);
        answers += x.spy(i % 3, i % 2) + x.tells(i % 3, 0) + x.end() + x.share(2, i % 3) + x.seen(i % 3, i % 9);
        answers += x.least(i, 0) + x.field(1, i % 3) + x.curve(3, 0, 0) + x.bend(i % 5, 1) + x.point(i % 5);
        answers += x.open(31, 0) + x.product(31, 1) + x.month(i % 2) + x.steal(i % 5) + x.known(1);
        answers += x.weight(i % 6, i % 7) + x.count(i % 8) + x.lie(2, 0, 1) + x.honest() + x.item(2, 5);
        return answers + (int) x.trace();
    }

    private static long allocated() {
        return BEAN.getThreadAllocatedBytes(Thread.currentThread().getId());
    }
}
