import com.sun.management.ThreadMXBean;
import java.lang.management.ManagementFactory;

/** The dearest calls, made as often as the document promises answers, fit into the room of one run. */
public final class RoomTest {
    private static final int CALLS = 512;
    /** Of 7.3 million elements each takes a byte at least, and each of 600,000 objects sixteen. */
    private static final long MOST_BYTES = 7_300_000;

    private static final ThreadMXBean THREADS = (ThreadMXBean) ManagementFactory.getThreadMXBean();

    public static void main(String[] args) {
        Equaltexts drafts = Check.office(5, 16);
        fits("type", () -> {
            if (drafts.type('t', 155) == 10) {
                drafts.wipe();
            }
        });
        drafts.wipe();
        drafts.act(0, 0);
        for (int i = 0; i < 12; i++) {
            Check.addUnit(drafts, 0, "t1 t1 t1 t1 t1 t1 t1 t1 t1 t1");
        }
        for (int i = 8; i > 0; i--) {
            // Each is better than the ones before, in a pair with each.
            drafts.translator(i % 2 == 0 ? 0b00011 : 0b00110, 9 - i);
        }
        fits("days", () -> drafts.days(0, 0, 2));
        fits("assign", () -> drafts.assign(0, 0, 2));
        fits("write", () -> drafts.write(0, 0, 0));
        fits("an office", Equaltexts::new);
        Equaltexts laws = Office400.frozen(400);
        fits("isSound", laws::isSound);
        fits("diverging", () -> laws.diverging(1));
        fits("checksum", laws::checksum);
        fits("judge and replay, with an office for each", RoomTest::judgeOnce);
        Check.end("RoomTest");
    }

    private static void judgeOnce() {
        Equaltexts x = Check.office(5, 0);
        Check.frozen(x, "", "", "", "", "");
        x.replay(x.judge(0, 0, 'm', 0));
    }

    private static void fits(String call, Runnable made) {
        long before = THREADS.getThreadAllocatedBytes(Thread.currentThread().getId());
        for (int i = 0; i < CALLS; i++) {
            made.run();
        }
        long taken = THREADS.getThreadAllocatedBytes(Thread.currentThread().getId()) - before;
        Check.due(call + " fits into the room, with " + taken + " bytes", true, taken <= MOST_BYTES);
    }
}
