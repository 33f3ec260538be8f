import java.lang.management.ManagementFactory;

/** The room: a run of 512 calls, the dearest ones, makes next to nothing. */
public final class RoomTest {
    public static void main(String[] args) {
        com.sun.management.ThreadMXBean room =
            (com.sun.management.ThreadMXBean) ManagementFactory.getThreadMXBean();
        JarNotes x = Due.cellarOf("k8;t0,60;g1,60;h2,60;s3,60;c4,60;t5,60;g6,60;h7,60;");
        x.row(0, 0, 40);
        dearest(x);
        long thread = Thread.currentThread().getId();
        long before = room.getThreadAllocatedBytes(thread);
        for (int n = 0; n < 24; n++) {
            dearest(x);
        }
        long used = room.getThreadAllocatedBytes(thread) - before;
        System.out.println("bytes made by 24 rounds of 18 calls: " + used);
        Due.holds("the calls use again what there is", used < 100000);
        Due.end("RoomTest");
    }

    private static void dearest(JarNotes x) {
        x.image(0);
        x.years(24);
        x.sneeze(0, 0);
        x.worst(0);
        x.guard(0, 0, 0, 0);
        x.changes(0);
        x.tuned(0, 0);
        x.spared(0);
        x.alike(0);
        x.song(0, 0, 0, 12);
        x.who(0, 1, 0, 0, 0, 12);
        x.reaches(0, 0, 0, 12);
        x.mould(0, 0, 0, 5, 0);
        x.drawn(60, 99, 0);
        x.ask(0, 0);
        x.row(1, 0, 40);
        x.undo();
        x.restore(0);
    }
}
