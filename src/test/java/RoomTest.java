import com.sun.management.ThreadMXBean;
import java.lang.management.ManagementFactory;

/**
 * All calls of a run live in one room of some 7.3 million fields and elements: what an object and 512 calls on it
 * make is measured, for the calls that could make the most, and must stay far below.
 */
public final class RoomTest {
    private static final ThreadMXBean MEMORY = (ThreadMXBean) ManagementFactory.getThreadMXBean();
    private static final int CALLS = 512;
    // An object's rows (some 7000 elements), and 40 acts twice, 240 elements each: in bytes, with room to spare.
    private static final long MOST_BYTES = 150_000;

    interface Run {
        void go(NestQuery x, int call);
    }

    private RoomTest() {
    }

    public static void main(String[] args) {
        for (int round = 0; round < 3; round++) {
            boolean last = round == 2;
            measure("nothing", last, (x, call) -> { });
            measure("acts", last, (x, call) -> x.add(0, call % 2 == 0 ? 1 : -1));
            measure("turns", last, (x, call) -> x.change(0, call % 2));
            measure("acts in images", last, RoomTest::imageAndAct);
            measure("years", last, (x, call) -> x.years(call, 20, call % 3));
            measure("patches", last, RoomTest::patch);
            measure("paths", last, (x, call) -> x.path(call % 4, 0));
            measure("texts", last, RoomTest::text);
            measure("refused", last, (x, call) -> x.tree(0));
            measure("undone", last, RoomTest::doAndUndo);
            measure("questions", last, RoomTest::ask);
        }
        Probe.finish();
    }

    private static void measure(String what, boolean counts, Run run) {
        long before = allocated();
        NestQuery x = new NestQuery();
        x.feed(0x5b312c5b, 0x322c335d, 0x2c7b613a, 0x347d5d20, 0x20202020);
        x.tree(19);
        x.feed(0x2e2e2020, 0x20202020, 0x20202020, 0x20202020, 0x20202020);
        x.path(0, 2);
        for (int call = 5; call <= CALLS; call++) {
            run.go(x, call);
        }
        long bytes = allocated() - before;
        if (counts) {
            Probe.due("bytes of 512 calls, " + what + ": " + bytes, bytes < MOST_BYTES, true);
        }
    }

    private static long allocated() {
        return MEMORY.getThreadAllocatedBytes(Thread.currentThread().getId());
    }

    private static void imageAndAct(NestQuery x, int call) {
        if (call % 3 == 0) {
            x.image();
        } else if (call % 7 == 0) {
            x.restore();
        } else {
            x.add(0, 1);
        }
    }

    private static void patch(NestQuery x, int call) {
        switch (call % 5) {
            case 0: x.image(); break;
            case 1: x.change(0, 0); break;
            case 2: x.keep(); break;
            default: x.apply(call % 5 == 3);
        }
    }

    private static void text(NestQuery x, int call) {
        if (call % 2 == 1) {
            x.feed(0x5b5d2020, 0x20202020, 0x20202020, 0x20202020, 0x20202020);
        } else if (call % 4 == 0) {
            x.tree(2);
        } else {
            x.append(0, 2);
        }
    }

    private static void doAndUndo(NestQuery x, int call) {
        if (call % 2 == 0) {
            x.add(0, 1);
        } else {
            x.undo();
        }
    }

    private static void ask(NestQuery x, int call) {
        switch (call % 6) {
            case 0: x.count(call % 18); break;
            case 1: x.thing(call % 5, call % 10); break;
            case 2: x.told(0, call % 4 == 0, NestQuery.NONE); break;
            case 3: x.answer(0, NestQuery.NONE); break;
            case 4: x.look(); break;
            default: x.alike(0, call % 5);
        }
    }
}
