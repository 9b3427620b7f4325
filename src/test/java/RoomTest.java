import java.lang.management.ManagementFactory;

/** All calls of one run live in one room: the calls themselves must make nothing. */
public final class RoomTest {
    private static final Due due = new Due();

    public static void main(String[] args) {
        com.sun.management.ThreadMXBean bean = (com.sun.management.ThreadMXBean) ManagementFactory.getThreadMXBean();
        long thread = Thread.currentThread().getId();
        dear(new BreakTime(), 20);
        long start = bean.getThreadAllocatedBytes(thread);
        BreakTime x = new BreakTime();
        long made = bean.getThreadAllocatedBytes(thread);
        dear(x, 20);
        long end = bean.getThreadAllocatedBytes(thread);
        due.holds("a new object in 64 KiB: " + (made - start), made - start < 65536);
        due.holds("500 calls in 64 KiB: " + (end - made), end - made < 65536);
        due.end();
    }

    private static void dear(BreakTime x, int rounds) {
        for (int i = 0; i < 10; i++) {
            x.child(100 * (i % 7) + 9, i, 1);
        }
        for (int i = 0; i < 5; i++) {
            x.heap(3, 4);
            x.rule(i, 99);
        }
        x.sheet(0, 8, 24);
        x.feed(0x2a29612b28782d77L, 8);
        x.feed(0x31L, 1);
        x.text(0);
        x.image();
        for (int i = 0; i < rounds; i++) {
            x.join(9, i % 5);
            x.teach(0, 60);
            x.word(1, 60);
            x.classes(0);
            x.net(0);
            x.minutes(20);
            x.terms(20);
            x.then(60, 3, 7);
            x.film(0, 60);
            x.sorrow(60);
            x.voice(4, 3, i);
            x.best(2);
            x.ring(5);
            x.feed(0x2b6f2b6cL, 4);
            x.text(1);
            x.childIs(100, i);
            x.told(1);
            x.image();
            x.restore();
            x.tell(i);
            x.check(0);
            x.slips(0, 6);
            x.move(0, 0, 0, 1, 9);
        }
    }
}
