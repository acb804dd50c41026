import java.lang.management.ManagementFactory;

/** All calls of a run live in one room: an object is small, and no call makes another one. */
public final class RoomTest {
    private static final int OBJECTS = 100;

    public static void main(String[] args) {
        // Once before it is counted, as the machine makes objects of its own when it meets a class first.
        dearCalls(new GrudgeGlasses());
        long[] before = new long[1];
        GrudgeGlasses[] made = new GrudgeGlasses[OBJECTS];
        before[0] = allocated();
        for (int i = 0; i < OBJECTS; i++) {
            made[i] = new GrudgeGlasses();
        }
        long forObjects = allocated() - before[0];
        before[0] = allocated();
        for (GrudgeGlasses x : made) {
            dearCalls(x);
        }
        long forCalls = allocated() - before[0];
        System.out.println("bytes for " + OBJECTS + " objects: " + forObjects + ", for their calls: " + forCalls);
        Due.isTrue("an object takes 8 KiB at most", forObjects <= OBJECTS * 8192L);
        Due.isTrue("calls make no object", forCalls <= OBJECTS * 200L);
        Due.end();
    }

    private static long allocated() {
        return ((com.sun.management.ThreadMXBean) ManagementFactory.getThreadMXBean())
            .getThreadAllocatedBytes(Thread.currentThread().getId());
    }

    private static void dearCalls(GrudgeGlasses x) {
        for (int k = 0; k < 8; k++) {
            x.person(k % 6);
            x.set(k, 2, 7 - k);
            x.grind(k);
        }
        x.feed(0x75703020, 4);
        x.quay();
        x.feed(0x75703920, 4);
        x.quay();
        for (int k = 0; k < 8; k++) {
            x.sheet(k % 4, 64, 40);
            x.book(k % 4, k);
            x.read(k % 4, k);
            x.copy(k % 4, 0, k % 4, 1, 39);
            x.borrow(k);
            x.kind(k);
            x.better(k, 60);
            x.most(k, 60);
            x.unseen(k);
            x.worn(k);
            x.forgives(k);
            x.sharpest(100);
            x.push();
            x.image();
            x.days(100);
            x.undo();
            x.person(-1);
        }
    }
}
