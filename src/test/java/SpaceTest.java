import java.lang.management.ManagementFactory;

/** All calls of a run live in one room: a call makes no objects, and a new object is small. */
public final class SpaceTest {
    private static final Check CHECK = new Check("SpaceTest");
    private static final com.sun.management.ThreadMXBean BEAN =
            (com.sun.management.ThreadMXBean) ManagementFactory.getThreadMXBean();

    private static final String TEXT = "M9Le11Le33Li21Li33Lj12La93C11C21C01";

    /** So often all calls can be made on one object: each time has some 66 of its 512 calls. */
    private static final int TIMES = 7, OBJECTS = 150;

    private static PigeonMail last;

    public static void main(String[] args) {
        if (!BEAN.isThreadAllocatedMemorySupported()) {
            System.out.println("SpaceTest: this machine does not tell");
            return;
        }
        callAll(new PigeonMail(), TIMES);
        PigeonMail[] objects = new PigeonMail[OBJECTS];
        for (int i = 0; i < OBJECTS; i++) {
            objects[i] = new PigeonMail();
        }
        int sum = 0;
        long before = allocated();
        for (PigeonMail x : objects) {
            sum += callAll(x, TIMES);
        }
        long bytes = allocated() - before;
        CHECK.due("bytes made by 69000 calls, 20000 at most (sum " + (sum == 0 ? 0 : 1) + ")",
                Math.max(20000, bytes), 20000);
        before = allocated();
        for (int i = 0; i < 1000; i++) {
            last = new PigeonMail();
        }
        bytes = (allocated() - before) / 1000;
        CHECK.due("bytes of a new object, 6000 at most", Math.max(6000, bytes), 6000);
        CHECK.due("the last one", last.about(0), 0);
        CHECK.end();
    }

    private static long allocated() {
        return BEAN.getThreadAllocatedBytes(Thread.currentThread().getId());
    }

    private static int callAll(PigeonMail x, int times) {
        int sum = 0;
        for (int i = 0; i < times; i++) {
            for (int k = 0; k < TEXT.length(); k++) {
                sum += x.write(TEXT.charAt(k));
            }
            sum += x.fault() + x.room() + x.wipe() + x.about(8) + x.letter(0, 5) + x.clerk(0, 0);
            sum += x.hole(0) + x.day() + x.put(1, 0) + x.feed(3) + x.send(0, 0) + x.undo() + x.ahead(20, 2);
            sum += x.hatches(1) + x.rows(true) + x.saved(1) + x.quiet() + x.judge(4, 1002000000004002L);
            sum += x.share(0, true) + x.tell(2, 1) + x.untell() + x.may(0) + x.rests(0, 1, 0) + x.hawks(1, 3, true);
            sum += (int) x.seed(i) + x.years(30) + x.keep(0) + x.again(0) + x.undo() + x.about(0) + x.about(9);
        }
        return sum;
    }
}
