import com.sun.management.ThreadMXBean;
import java.lang.management.ManagementFactory;

/** What an object takes, and that the dearest calls take next to nothing and come to an end. */
final class RoomTest {
    private static final ThreadMXBean THREADS = (ThreadMXBean) ManagementFactory.getThreadMXBean();

    public static void main(String[] args) {
        new TuneAndWords();
        long before = taken();
        TuneAndWords x = new TuneAndWords();
        long object = taken() - before;
        Check.holds("an object takes at most 64 KiB: " + object, object < 65536);
        dearest(x);
        before = taken();
        for (int i = 0; i < 512; i++) dearest(x);
        long calls = taken() - before;
        Check.holds("512 times all of the dearest calls take next to nothing: " + calls, calls < 4096);
        System.out.println("bytes: an object " + object + ", 512 times the dearest calls " + calls);
        Check.end("RoomTest");
    }

    private static long taken() {
        return THREADS.getThreadAllocatedBytes(Thread.currentThread().getId());
    }

    private static final char[] LAW = "1+(s*(a+t-k)-(w|r)*(((s%7)))+k*2-k-k<9999)+0*(a+a+a+a+a+a+a+a+a+a+a)".toCharArray();

    private static void dearest(TuneAndWords x) {
        for (int i = 0; i < 12; i++) x.line(0, 111 * (i % 8));
        for (int i = 0; i < 11; i++) {
            x.has(i % 4, i, 0, 1);
            x.has((i + 1) % 4, i, 1, 1);
        }
        for (char c : LAW) x.feed(c);
        x.law();
        x.row(0, 0, 60);
        for (int i = 1; i < 60; i++) x.put(0, i, x.sung(0, i, 0));
        x.lacked(0, 0);
        x.judge(0, 0);
        x.fewest(0);
        x.oneBit(0, 3);
        x.runUp(0, 1);
        x.drawn(0, 7, 20, 0);
        x.mixed(0, 1);
        x.begin(0);
        for (int i = 0; i < 60; i++) x.on();
        x.image();
        x.back();
        x.mend(0, 3, 1);
        x.mend(0, 3, 2);
        x.undo();
        x.body(5);
        x.act(0, 3, 5);
        x.shift(0, 0, 0, 1, 50);
    }
}
