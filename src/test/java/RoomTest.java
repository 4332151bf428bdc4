import com.sun.management.ThreadMXBean;
import java.lang.management.ManagementFactory;

/** Rows are made once and used again: what an object's 512 calls take of the room stays small. */
public final class RoomTest {
    private static final Checks CHECKS = new Checks("RoomTest");
    private static final ThreadMXBean BEAN = (ThreadMXBean) ManagementFactory.getThreadMXBean();

    public static void main(String[] args) {
        // once for the machine's own needs, once to be measured
        measure(false);
        measure(true);
        CHECKS.close();
    }

    private static void measure(boolean counts) {
        long before = allocated();
        DustSums x = new DustSums();
        long made = allocated() - before;
        Checks.load(x, "in A 0;in B 1;mul C A B;sub D C A;sub E D A;sub F E A;out F;");
        x.modulus(2);
        x.input(0, 1, 2);
        x.input(1, 1, 1);
        x.spy(0, 1);
        long ready = allocated();
        int answers = 0;
        for (int i = 0; i < 60; i++) answers += allCalls(x, i);
        long later = allocated() - ready;
        if (!counts) return;
        CHECKS.due("a new object takes at most 8192 bytes, not " + made, made <= 8192 ? 1 : 0, 1);
        CHECKS.due("calls take nothing, not " + later, later <= 4096 ? 1 : 0, 1);
        CHECKS.due("answers", answers == 0 ? 0 : 1, 1);
    }

    private static int allCalls(DustSums x, int i) {
        int answers = 0;
        x.type(0x636F6E20413030L, 7);
        answers += x.program() + x.clear();
        answers += x.spy(i % 3, i % 2) + x.tells(i % 3, 0) + x.end() + x.share(2, i % 3) + x.seen(i % 3, i % 9);
        answers += x.least(i, 0) + x.field(1, i % 3) + x.curve(3, 0, 0) + x.bend(i % 5, 1);
        answers += x.open(31, 0) + x.product(31, 1) + x.month(i % 2) + x.steal(i % 5) + x.known(1);
        answers += x.weight(i % 6, i % 7) + x.count(i % 8) + x.lie(2, 0, 1) + x.honest() + x.item(2, 5);
        return answers;
    }

    private static long allocated() {
        return BEAN.getThreadAllocatedBytes(Thread.currentThread().getId());
    }
}
