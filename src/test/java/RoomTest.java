import com.sun.management.ThreadMXBean;
import java.lang.management.ManagementFactory;

/** All calls of one run live in one room: no call may make objects, and the constructor few. */
public final class RoomTest {
    private static final Check check = new Check("RoomTest");
    private static final ThreadMXBean BEAN = (ThreadMXBean) ManagementFactory.getThreadMXBean();
    private static final String TEXT = "e9,60,2;e9,60,1;e9,60,3;s0,1,20;s1,6,19;s2,11,18;s0,16,17;s1,21,16;s2,26,15;"
        + "w0,60;w1,60;w2,60;w3,60;w4,60;w5,60;w6,60;w7,60;w8,60;w9,60;m9;f0,2;f1,0;f2,0;r6;";

    public static void main(String[] args) {
        SheepAndStones x = Check.laid(TEXT);
        everyCall(x, 1);
        long ahead = made();
        long idle = made() - ahead;
        ahead = made();
        for (int k = 0; k < 20; k++) {
            everyCall(x, 1 + k);
        }
        long calls = made() - ahead - idle;
        check.holds("500 calls made " + calls + " bytes", calls < 4096);
        ahead = made();
        x = new SheepAndStones();
        long object = made() - ahead - idle;
        check.holds("an object makes " + object + " bytes", object < 16384);
        check.due("it stands", x.count(0), 1);
        check.end();
    }

    private static long made() {
        return BEAN.getThreadAllocatedBytes(Thread.currentThread().getId());
    }

    private static void everyCall(SheepAndStones x, int w) {
        x.weigh(0, w);
        x.order(-1);
        x.give(2, 60 - w);
        x.order(0);
        x.ballast(0, 30);
        x.hold(30);
        x.meal(2, 30);
        x.aim(1, 9);
        x.crater(w, 3);
        x.least(2, w, 9);
        x.odds(40, 1, 9, 9, 0);
        x.year(w, 0);
        x.cell(9, 30);
        x.rubble(30);
        x.breach(0);
        x.sheep(1, 30);
        x.stone(1, 4);
        x.engine(1, 1);
        x.keep();
        x.back();
        x.undo();
        x.count(3);
        x.fault();
        x.lay();
        x.write(1, 0L);
        x.wipe();
        Check.tell(x, TEXT);
        x.lay();
    }
}
