import com.sun.management.ThreadMXBean;
import java.lang.management.ManagementFactory;

/** No call makes an object: all rows are made in the constructor. */
public final class RoomTest {
    private static final Due due = new Due();
    private static final String TEXT =
            "c2 1;c5 3;c3 2;m12 3 30 20 10 12;m4 2 25 16 9 14;m7 4 40 18 6 10;m20 1 10 8 12 9;m1 1 1 1 1 1;";

    private static long sum;

    public static void main(String[] args) {
        ThreadMXBean threads = (ThreadMXBean) ManagementFactory.getThreadMXBean();
        long id = Thread.currentThread().getId();
        FacingFields x = new FacingFields();
        everyCall(x);
        threads.getThreadAllocatedBytes(id);
        long before = threads.getThreadAllocatedBytes(id);
        for (int i = 0; i < 200; i++) {
            everyCall(x);
        }
        long made = threads.getThreadAllocatedBytes(id) - before;
        // One object a round would be 200 times 16 bytes; what asking itself makes is far below.
        due.holds("200 rounds of all calls made " + made + " bytes", made < 200 * 16);
        due.holds("the answers are used", sum != 0);
        due.end();
    }

    private static void everyCall(FacingFields x) {
        for (int i = 0; i < TEXT.length(); i++) {
            sum += x.type(TEXT.charAt(i));
        }
        sum += x.valley() + x.type('x') + x.valley() + x.clear();
        sum += x.man(0, 0) + x.yieldOf(0, 0) + x.carries(0, 0) + x.has(0, 2) + x.now(3) + x.now(4) + x.now(2);
        sum += x.sows(0, 1) + x.rains(1) + x.ropes(0, 1) + x.mules(0, 1) + x.marries(0, 2) + x.year() + x.undo();
        sum += x.best(0, 1, 0) + x.rest(0, 0) + x.hungry(0) + x.faces(-1) + x.needed(-1);
        sum += x.stubble(0, 1) + x.cut(0) + x.forget() + x.odds(3, 6, 0, 5, 0) + x.rich(0, 50) + x.poor();
        sum += x.share(0, 0) + x.keep(0) + x.back(0) + x.count(0) + x.trace();
        for (int kind = 0; kind < 6; kind++) {
            sum += x.rate(kind, 0);
        }
    }
}
