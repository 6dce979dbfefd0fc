import java.lang.management.ManagementFactory;

/** A run's room: its bytes, of which every field and element takes at least one, stay below 7.3 million. */
final class RoomTest {
    private static final long ROOM = 7_300_000;

    public static void main(String[] args) {
        // Once before it counts, so that the loading of classes is not counted.
        busyRun();
        newObjects();
        long before = taken();
        busyRun();
        long busy = taken() - before;
        newObjects();
        long made = taken() - before - busy;
        System.out.println("a busy run takes " + busy + " bytes, 512 new objects take " + made);
        Checks.same("a busy run has room", (busy < ROOM) + "", "true");
        Checks.same("512 new objects have room", (made < ROOM) + "", "true");
        Checks.end();
    }

    private static long taken() {
        java.lang.management.ThreadMXBean threads = ManagementFactory.getThreadMXBean();
        return ((com.sun.management.ThreadMXBean) threads).getThreadAllocatedBytes(Thread.currentThread().getId());
    }

    private static void newObjects() {
        for (int k = 0; k < 512; k++) {
            new FontOutlines().load(true);
        }
    }

    /** A font that takes half of the calls to be fed, then loads and questions without end. */
    private static void busyRun() {
        FontMaker maker = new FontMaker().add(FontMaker.triangle());
        for (int g = 1; g < 60; g++) {
            maker.add(FontMaker.composed(FontMaker.part(34, 0, 1, 1), FontMaker.part(34, g > 5 ? g % 5 : 0, 1, 1),
                    FontMaker.part(2, 0, 2, 2)));
        }
        maker.glyphs.set(5, FontMaker.heap(200));
        FontOutlines x = maker.font();
        for (int k = 0; k < 200; k++) {
            x.load(k % 3 > 0);
            x.measure(k % 60, 7);
            x.point(59 - k % 60, 0, 0);
            x.put(12 + 16 * 7, k % 2);
            x.glyph(65);
        }
    }
}
