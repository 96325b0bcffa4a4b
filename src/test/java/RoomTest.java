import java.lang.management.ManagementFactory;

/** What calls make: an object is small, and only a booking and rights that are told make anything. */
public final class RoomTest {
    private static final com.sun.management.ThreadMXBean MEMORY =
            (com.sun.management.ThreadMXBean) ManagementFactory.getThreadMXBean();

    public static void main(String[] args) {
        // Once ahead of the measuring: what the machine makes when code first runs is not the class's.
        IceHall first = new IceHall();
        crowd(first);
        theOthers(first);
        long start = made();
        IceHall x = new IceHall();
        long object = made() - start;
        // All calls of a run share some 7.3 million elements: 512 such objects take less than a tenth.
        Due.yes("a new object takes " + object + " bytes", object < 8000);
        long calls = crowd(x);
        Due.yes("200 bookings and 10 rights take " + calls + " bytes", calls < 210 * 80);
        long rest = theOthers(x);
        Due.yes("1700 other calls take " + rest + " bytes", rest < 1000);
        Due.end();
    }

    private static long made() {
        return MEMORY.getThreadAllocatedBytes(Thread.currentThread().getId());
    }

    private static long crowd(IceHall x) {
        long start = made();
        for (int b = 0; b < 200; b++) {
            x.book(b % 6, b % 4, b % 2, b / 2 * 3);
        }
        for (int i = 0; i < 10; i++) {
            x.feed(0x66313233, 0x343b6331, 0x303b6e37, 0x3b6b3132, 0x3b643035);
            x.rights(i % 6, 20 - i % 2);
        }
        return made() - start;
    }

    private static long theOthers(IceHall x) {
        long start = made();
        for (int i = 0; i < 100; i++) {
            x.plan(8, 40);
            x.planned(i % 8);
            x.close(i % 2, x.count(0) + 4, x.count(0) + 14);
            x.cancel(i * 2);
            x.cut(i % 2, 3, 3);
            x.step(20, 2);
            x.part(i % 6, 1000);
            x.look(i, 3);
            x.at(i % 2, i);
            x.sheet(i % 2, 1);
            x.club(i % 6, 3);
            x.count(i % 34);
            x.most(300 + i);
            x.compressors(3);
            x.price(i % 24, i % 30);
            x.rest(1 + i % 12);
            x.book(0, 0, 0, 0);
        }
        return made() - start;
    }
}
