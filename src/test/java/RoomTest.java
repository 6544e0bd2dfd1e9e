import com.sun.management.ThreadMXBean;
import java.lang.management.ManagementFactory;

/** The room that a whole run takes, and answers to arguments that are far out. */
public final class RoomTest {
    private static final ThreadMXBean THREADS = (ThreadMXBean) ManagementFactory.getThreadMXBean();
    private static final int[] WILD = {Integer.MIN_VALUE, -65, -7, -6, -2, -1, 0, 1, 5, 15, 16, 17, 31, 32, 59, 60, 61, 64, 80, 255, Integer.MAX_VALUE};

    public static void main(String[] args) {
        room();
        wildOnes();
        wildTwos();
        Due.close();
    }

    private static long taken() {
        return THREADS.getThreadAllocatedBytes(Thread.currentThread().getId());
    }

    private static void room() {
        busyRun();
        long before = taken();
        busyRun();
        long bytes = taken() - before;
        Due.holds("a run of 512 calls takes little room, not " + bytes, bytes < 200_000);
    }

    private static void busyRun() {
        AnchoredNotes x = new AnchoredNotes();
        for (int call = 0; call < 512; call += 8) {
            x.put(0x2b303d6162636162L);
            x.put(0x3b6e302d313b7230L);
            x.carryOut();
            x.move(0, 1, 3);
            x.leastRoom(0);
            x.save(call / 8 & 1);
            x.restore(0);
            x.drop(call & 15);
        }
    }

    private static AnchoredNotes busy() {
        AnchoredNotes x = new AnchoredNotes();
        Due.carryOut(x, "+0=abcabcabc;n0-2;n3-4;r1;-3-4");
        return x;
    }

    /** Each call has an answer, also on an empty object; the machine itself throws in none. */
    private static void wildOnes() {
        int answers = 0;
        for (int a : WILD) {
            for (int kind = 0; kind < 2; kind++) {
                AnchoredNotes x = kind == 0 ? new AnchoredNotes() : busy();
                answers += fine(x.letter(a)) + fine(x.at(a)) + fine(x.count(a)) + fine(x.leastRoom(a)) + fine(x.save(a))
                    + fine(x.reply(a)) + fine(x.reclaim(a)) + fine(x.drop(a)) + fine(x.restore(a)) + fine(x.put(a))
                    + fine(x.fault()) + fine(x.carryOut()) + fine(x.wipe()) + fine(x.undo());
            }
        }
        Due.is("answers", answers, 14 * 2 * WILD.length);
    }

    private static void wildTwos() {
        int answers = 0;
        for (int a : WILD) {
            for (int b : WILD) {
                AnchoredNotes x = busy();
                answers += fine(x.of(a, b)) + fine(x.word(a, b)) + fine(x.printed(a, b)) + fine(x.could(a, b))
                    + fine(x.orphansIf(a, b)) + fine(x.set(a, b)) + fine(x.write(a, b)) + fine(x.note(a, b))
                    + fine(x.move(a, b, a)) + fine(x.move(a, a, b)) + fine(x.erase(a, b));
            }
        }
        Due.is("answers", answers, 11 * WILD.length * WILD.length);
    }

    private static int fine(int answer) {
        return answer >= -6 ? 1 : 0;
    }
}
