import java.lang.management.ManagementFactory;
import java.util.function.IntConsumer;

/**
 * All calls of one run live in one room: what an object and 512 calls of one kind make is small,
 * whichever the call is. The room is 7.3 million fields and elements; a run may take a tenth of it.
 */
public final class RoomTest {
    private static final long MOST_BYTES = 7300000L * 8 / 10;

    private static final com.sun.management.ThreadMXBean THREADS =
            (com.sun.management.ThreadMXBean) ManagementFactory.getThreadMXBean();

    private static MeterHouse house;

    public static void main(String[] args) {
        dueSmall("word", 480, call -> house.word(call % 8, call, call % 12));
        dueSmall("volumeAnew", 480, call -> house.volumeAnew(call % 8, call));
        dueSmall("bill", 480, call -> house.bill(call % 8));
        dueSmall("settle", 480, call -> house.settle(call));
        dueSmall("weather", 480, call -> house.weather(480 + call % 2, 999, call % 31));
        dueSmall("credit", 480, call -> house.credit(call % 8, 97 * call + call % 97));
        dueSmall("pass and exchange", 240, call -> {
            house.pass(1);
            house.exchange(call % 8, 5, 6, 10);
        });
        dueSmall("change and object", 240, call -> {
            house.change(call % 8, 3, 999);
            house.object(call % 8);
        });
        dueSmall("a point that is refused", 480, call -> Check.notNow("point", () -> house.point(0, 0, 3, 1, 0)),
                2000);
        Check.end();
    }

    private static void dueSmall(String name, int calls, IntConsumer call) {
        dueSmall(name, calls, call, 0);
    }

    /** The bytes of a call are those that the test and the thrown exceptions take. */
    private static void dueSmall(String name, int calls, IntConsumer call, long bytesOfACall) {
        long before = THREADS.getCurrentThreadAllocatedBytes();
        house = new MeterHouse();
        for (int point = 0; point < 8; point++) {
            house.point(point % 3, point % 3, 6, 10, 0);
        }
        for (int passed = 0; passed < 480; passed += 60) {
            house.pass(60);
        }
        for (int made = 0; made < calls; made++) {
            call.accept(made);
        }
        long bytes = THREADS.getCurrentThreadAllocatedBytes() - before - calls * bytesOfACall;
        Check.dueText(name + ": " + bytes + " bytes", bytes <= MOST_BYTES ? "small" : "large", "small");
    }
}
