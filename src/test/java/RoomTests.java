import com.sun.management.ThreadMXBean;
import java.lang.management.ManagementFactory;

/** All calls of a run share one room of objects: a new object takes little of it, and a call takes nothing. */
public final class RoomTests {
    private static final int OBJECTS = 200;
    private static final long BYTES_OF_AN_OBJECT = 8000;
    private static final Due due = new Due();

    public static void main(String[] args) {
        due.part("room");
        ThreadMXBean threads = (ThreadMXBean) ManagementFactory.getThreadMXBean();
        NotePress[] made = new NotePress[OBJECTS];
        useAll(new NotePress());
        threads.getCurrentThreadAllocatedBytes();
        long start = threads.getCurrentThreadAllocatedBytes();
        for (int i = 0; i < OBJECTS; i++) {
            made[i] = new NotePress();
        }
        long constructed = threads.getCurrentThreadAllocatedBytes();
        for (int i = 0; i < OBJECTS; i++) {
            useAll(made[i]);
        }
        long called = threads.getCurrentThreadAllocatedBytes();
        due.holds("an object takes " + (constructed - start) / OBJECTS + " bytes",
            constructed - start <= OBJECTS * BYTES_OF_AN_OBJECT);
        // The measuring itself may take a few bytes; a call that made an object would take thousands.
        due.holds("calls take " + (called - constructed) + " bytes", called - constructed < OBJECTS);
        due.end();
    }

    private static void useAll(NotePress x) {
        printAndAsk(x);
        for (int i = 0; i < TEXT.length; i++) {
            x.write(TEXT[i]);
        }
        x.fault();
        x.lay();
        printAndAsk(x);
        x.wipe();
    }

    private static final char[] TEXT = "p8;p8;p8;p1;sa,0,40,40,40,39;z99;".toCharArray();

    private static void printAndAsk(NotePress x) {
        for (int press = 0; press < 4; press++) {
            x.run(0, press, x.share(0, press, 0));
        }
        for (int number = 0; number < 8; number++) {
            x.spoil(0, number);
        }
        x.spoilSheet(0, 0, 9);
        x.undo();
        for (int what = -1; what < 11; what++) {
            x.series(0, what);
            x.where(0, 7, what);
            x.missed(0, 123, what);
            x.star(0, what);
            x.pack(0, 0, what);
            x.count(what);
        }
        x.number(0, 0, 1, 1);
        x.check(0, 1);
        x.note(0, 1);
        x.starOf(0, 1);
        x.judge(1, 1, 1);
    }
}
