import com.sun.management.ThreadMXBean;
import java.lang.management.ManagementFactory;

/** No call makes an object, and 512 of the dearest calls end soon. */
public final class TestRoom {
    private static final Due DUE = new Due();
    private static final long FEW_BYTES = 256 * 1024;

    public static void main(String[] args) {
        ThreadMXBean threads = (ThreadMXBean) ManagementFactory.getThreadMXBean();
        long sum = dearRun(new LeastAlone());
        LeastAlone x = new LeastAlone();
        long before = threads.getCurrentThreadAllocatedBytes();
        sum -= dearRun(x);
        long made = threads.getCurrentThreadAllocatedBytes() - before;
        DUE.is("the same calls give the same answers", sum, 0);
        DUE.holds("512 calls made " + made + " bytes", made < FEW_BYTES);
        before = threads.getCurrentThreadAllocatedBytes();
        LeastAlone[] many = new LeastAlone[100];
        for (int i = 0; i < many.length; i++) {
            many[i] = new LeastAlone();
        }
        made = threads.getCurrentThreadAllocatedBytes() - before;
        DUE.holds("100 objects made " + made + " bytes", made < 100 * 8192);
        DUE.end("TestRoom");
    }

    private static long dearRun(LeastAlone x) {
        long sum = x.inn(6, 6);
        for (int i = 0; i < 6; i++) {
            x.say('?');
        }
        for (int i = 0; i < 36; i++) {
            sum += x.rule(i % 4) + x.rest(8, 1) + x.gap(7, 0) + x.friends(7, 0) + x.league(3, 0) + x.late(5, 1);
            sum += x.forget() + x.seen(2, 0, 0) + x.fits(5) + x.could(5) + x.year(i, 99, 5) + x.spied(0, 0);
            sum += x.steps(20) + x.nobody(0);
        }
        return sum;
    }
}
