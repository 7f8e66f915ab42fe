import com.sun.management.ThreadMXBean;
import java.lang.management.ManagementFactory;
import java.util.NoSuchElementException;

/** An object is small, and running the storm again makes nothing new. */
public final class RoomTest {
    private static final ThreadMXBean THREADS = (ThreadMXBean) ManagementFactory.getThreadMXBean();

    public static void main(String[] args) {
        Check.isTrue("1: an object is small", room(RoomTest::makeHundred) < 100 * 20_000);
        Stormcellar x = busyCoast();
        Runnable worst = () -> askWorst(x);
        Runnable consistent = () -> Check.isTrue("39: at hour " + x.hour(), x.isConsistent());
        worst.run();
        consistent.run();
        while (x.hour() < 48) {
            x.pass(1);
            Check.isTrue("34: worst makes an exception at most", room(worst) < 4_000);
            Check.isTrue("39: isConsistent makes nothing", room(consistent) < 4_000);
        }
        Check.end();
    }

    private static void makeHundred() {
        for (int i = 0; i < 100; i++) {
            Check.is("1: hour", new Stormcellar().hour(), 0);
        }
    }

    /** Only the room counts here, not whether a choice was the worst one. */
    private static void askWorst(Stormcellar x) {
        try {
            x.worst();
        } catch (NoSuchElementException none) {
            return;
        }
    }

    /** Groups that go on and on round shelters that have no room for them, and all choices made. */
    private static Stormcellar busyCoast() {
        Stormcellar x = Coasts.flat(1);
        Coasts.addNews(x);
        x.addPump(5, 1, 0);
        for (int i = 0; i < 6; i++) {
            x.addGroup(27, 10, 0);
        }
        for (int i = 0; i < 4; i++) {
            x.addShelter(60, 10);
            x.open(i, true);
        }
        x.pass(1);
        for (int i = 0; i < 6; i++) {
            x.warn(i);
            x.turn(0, i % 2 == 0);
        }
        return x;
    }

    private static long room(Runnable call) {
        long me = Thread.currentThread().getId();
        long before = THREADS.getThreadAllocatedBytes(me);
        call.run();
        return THREADS.getThreadAllocatedBytes(me) - before;
    }
}
