import com.sun.management.ThreadMXBean;
import java.lang.management.ManagementFactory;

/** All calls of an object live in one room of some 7.3 million fields and elements: the dearest runs of calls. */
public final class RoomTest {
    private static final long ROOM = 4L * 7_300_000;
    private static final ThreadMXBean BEAN = (ThreadMXBean) ManagementFactory.getThreadMXBean();

    public static void main(String[] args) {
        // the first use of the bean makes objects of its own
        BEAN.getCurrentThreadAllocatedBytes();
        newObjects();
        livesWithAnew();
        remarksWithoutEnd();
        Due.close("RoomTest");
    }

    private static void holds(String what, long before, long most) {
        long made = BEAN.getCurrentThreadAllocatedBytes() - before;
        Due.is(what + " made " + made + " bytes, at most " + most + ": held", true, made <= most);
    }

    private static void newObjects() {
        long before = BEAN.getCurrentThreadAllocatedBytes();
        int sum = 0;
        for (int i = 0; i < 512; i++) {
            sum += new ErrandGuild().count(2);
        }
        Due.is("threads of 512 new objects", 1024, sum);
        holds("512 new objects", before, ROOM);
    }

    /** Runs are used again: a hundred lives with 200 runs each make no more than one. */
    private static void livesWithAnew() {
        ErrandGuild x = Ops.guild();
        x.threads(6);
        Ops.program(x, 0, Ops.SPLIT, 1, 4, Ops.SPLIT, 1, 4, Ops.SPLIT, 1, 4, Ops.SPLIT, 1, 4, Ops.SPLIT, 1, 4);
        Ops.program(x, 1, Ops.SPLIT, 2, 4, Ops.SPLIT, 2, 4, Ops.THROW, 0, 0);
        Ops.program(x, 2, Ops.ADD, 0, 0, Ops.ADD, 0, 0, Ops.ADD, 0, 0, Ops.ADD, 0, 0, Ops.ADD, 0, 0, Ops.ADD, 0, 0,
                Ops.THROW, 0, 0);
        x.handler(2, 0, 0, true);
        long before = BEAN.getCurrentThreadAllocatedBytes();
        for (int life = 0; life < 100; life++) {
            x.submit(0);
            x.beat(100);
            x.beat(100);
            x.beat(100);
            x.anew(false);
        }
        holds("a hundred lives", before, 1_000_000);
    }

    private static void remarksWithoutEnd() {
        ErrandGuild x = Ops.guild();
        x.threads(6);
        for (int i = 0; i < 4; i++) {
            x.step(0, Ops.TRY, 8, i + 1);
        }
        for (int i = 4; i < 23; i++) {
            x.step(0, Ops.REMARK, 0, 1);
        }
        x.step(0, Ops.THROW, 0, 0);
        long before = BEAN.getCurrentThreadAllocatedBytes();
        for (int r = 0; r < 200; r++) {
            x.submit(0);
        }
        for (int i = 0; i < 288; i++) {
            x.beat(100);
        }
        holds("remarks without end", before, ROOM);
    }
}
