import com.sun.management.ThreadMXBean;
import java.lang.management.ManagementFactory;

/** All calls of a run live in one room: an object is made once, and calls make next to nothing. */
public final class LeanTest {
    private static final int MOST_BYTES_AN_OBJECT = 24000, MOST_BYTES_A_TEXT = 1200, MOST_BYTES_OF_CALLS = 2000, CALLS = 512;
    private static final ThreadMXBean THREADS = (ThreadMXBean) ManagementFactory.getThreadMXBean();

    private static long made() {
        return THREADS.getThreadAllocatedBytes(Thread.currentThread().getId());
    }

    public static void main(String[] args) {
        Due due = new Due("LeanTest");
        made();
        new RoomWatch();
        long before = made();
        RoomWatch x = new RoomWatch();
        long object = made() - before;
        due.is("bytes of an object (" + object + ") are few", 1, object <= MOST_BYTES_AN_OBJECT ? 1 : 0);

        x.deal(7);
        x.sheet(0, 0, 24);
        Due.text(x, "reach t+s*h/3");
        use(x, 1);
        before = made();
        use(x, CALLS / 24 - 2);
        long calls = made() - before;
        due.is("bytes of calls (" + calls + ") are next to none", 1, calls <= MOST_BYTES_OF_CALLS ? 1 : 0);

        String text = "fee 0" + "+1".repeat(45);
        Due.tape(x, text);
        x.text();
        Due.tape(x, text);
        before = made();
        x.text();
        long told = made() - before;
        due.is("bytes of a text (" + told + ") are few", 1, told <= MOST_BYTES_A_TEXT ? 1 : 0);
        due.end();
    }

    private static void use(RoomWatch x, int times) {
        for (int k = 0; k < times; k++) {
            x.becomes(0, 60, 0);
            x.faces(1, 60, 1);
            x.catches();
            x.behind(100, 4);
            x.like(0, 1);
            x.hours(100);
            x.fewest(0);
            x.stand(0, 0, 0);
            x.sneak(0, 47);
            x.watched(1);
            x.keep();
            x.tell(1);
            x.check(30);
            x.back();
            x.lay(0, 1, 2);
            x.lay(1, 2, 0);
            x.copy(0, 0, 0, 1, 20);
            x.pour(0);
            x.sheet(1, 1, 24);
            x.feed(k, k, k);
            x.text();
            x.spare(1);
            x.row(0, 0);
            x.told(0, 6);
        }
    }
}
