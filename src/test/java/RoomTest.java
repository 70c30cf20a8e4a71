import com.sun.management.ThreadMXBean;
import java.lang.management.ManagementFactory;

/** All calls of a run live in one room: a call makes no objects, and a new object makes few. */
final class RoomTest {
    private static final long MOST_OF_CALLS = 4000;
    private static final long MOST_OF_ONE = 40000;
    private static final String BOOK = "account cash 10;account work 20;account finance 30;"
        + "journal 3 0 5 1 -5;journal 4 0 9 1 -4 2 -5;journal 5 0 1 1 1 2 1 0 -1 2 -2;";

    public static void main(String[] args) {
        ThreadMXBean threads = (ThreadMXBean) ManagementFactory.getThreadMXBean();
        long thread = Thread.currentThread().getId();
        byte[] bytes = BOOK.getBytes(java.nio.charset.StandardCharsets.ISO_8859_1);
        long made = 0;
        long called = 0;
        // the first rounds also load classes
        for (int round = 0; round < 5; round++) {
            long start = threads.getThreadAllocatedBytes(thread);
            CashDeriver x = new CashDeriver();
            made = threads.getThreadAllocatedBytes(thread) - start;
            start = threads.getThreadAllocatedBytes(thread);
            for (int n = 0; n < 8; n++) {
                callAll(x, bytes, n);
            }
            called = threads.getThreadAllocatedBytes(thread) - start;
        }
        Checks.due("a new object takes " + made + " bytes: few", made <= MOST_OF_ONE, true);
        Checks.due("its calls take " + called + " bytes: next to none", called <= MOST_OF_CALLS, true);
        Checks.finish();
    }

    private static void callAll(CashDeriver x, byte[] bytes, int n) {
        Checks.writeBytes(x, bytes);
        x.text();
        for (int k = 0; k < 12; k++) {
            x.post(k, 0, 1, k + 1);
        }
        x.more(3, 0, 1, 4);
        x.strike(n);
        x.tell(0, n);
        x.turn(2, n);
        x.traced();
        x.undo();
        x.now(n);
        x.account(0, n % 5);
        x.journal(0, n % 5);
        x.piece(0, 0, n);
        x.direct(n, 0, 19, 2);
        x.indirect(0, 19, n);
        x.change(0, 19);
        x.makes(n, 0, 19);
        x.deals(1, n, 0, 19);
        x.balance(0, n);
        x.feed(n, n, n, n, n);
        x.text();
        x.fault();
    }
}
