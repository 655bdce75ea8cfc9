import com.sun.management.ThreadMXBean;
import java.lang.management.ManagementFactory;

/** All calls of a run live in one room: a call makes nothing, an object little. */
public final class RoomTest {
    private static final int ROUNDS = 200;

    public static void main(String[] args) {
        ThreadMXBean bean = (ThreadMXBean) ManagementFactory.getThreadMXBean();
        long id = Thread.currentThread().getId();
        byte[] text = ("rooms 7;door 0 1;door 1 2;door 2 3;door 3 4;door 4 5;door 5 6;door 6 0;door 1 4;door 2 6;door 0 0;"
                + "swap 1 3;turn 5 2;bar 4;period 2;beast 3 turns;").getBytes();
        ThreadMoved x = new ThreadMoved();
        everyCall(x, text);
        bean.getThreadAllocatedBytes(id);
        long before = bean.getThreadAllocatedBytes(id);
        for (int i = 0; i < ROUNDS; i++) {
            everyCall(x, text);
        }
        long calls = bean.getThreadAllocatedBytes(id) - before;
        Check.dueTrue("bytes made by calls: " + calls, calls < 16 * ROUNDS);
        before = bean.getThreadAllocatedBytes(id);
        ThreadMoved y = new ThreadMoved();
        long object = bean.getThreadAllocatedBytes(id) - before;
        Check.due("count(0)", y.count(0), 0);
        Check.dueTrue("bytes made by an object: " + object, object < 40_000);
        Check.finish();
    }

    private static void everyCall(ThreadMoved x, byte[] text) {
        for (int i = 0; i < text.length; i += 8) {
            x.feed(Check.eight(text, i));
        }
        x.end(text.length);
        x.text();
        x.fault();
        x.rule(0);
        x.door(0, 0);
        x.law(0);
        x.doors(0);
        x.bar(0, false);
        x.period(3);
        x.put(1);
        x.lurk(4, 2);
        x.go(10);
        x.bite(0);
        x.dusk(60, 1, 1);
        x.again();
        x.thread(0);
        x.leads(1);
        x.see(1, 0, 1);
        x.forget(1);
        x.hear(3, 1, false);
        x.hush(1);
        for (int i = 0; i < 4; i++) {
            x.lair(i);
        }
        x.laws(0);
        x.sure(1, 1);
        x.wall(1);
        x.keep(0);
        x.back(0);
        x.soonest(5, 10);
        x.alive(24);
        x.walk(77, 60, 0);
        x.sheet(0, 1, 40);
        x.lay(0, 0, 10);
        x.read(0, 1, 0, 1);
        x.read(0, 2, 0, 1);
        x.torn();
        x.count(3);
    }
}
