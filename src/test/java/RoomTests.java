import com.sun.management.ThreadMXBean;
import java.lang.management.ManagementFactory;

/**
 * "All calls of one run live in ONE room": runs of 512 calls, each the dearest that its calls allow. Every object takes
 * this machine at least 16 bytes, and every field and element at least one, so a run that takes no more bytes than
 * ROOM makes no more than 7.3 million fields and elements and fewer than 600,000 objects.
 */
public final class RoomTests {
    private static final int CALLS = 512;
    private static final long ROOM = 7_300_000;

    private interface Call {
        long at(CliffCars x, int k);
    }

    private static final ThreadMXBean MEMORY = (ThreadMXBean) ManagementFactory.getThreadMXBean();
    private static int wrong = 0;
    private static long answers = 0;

    public static void main(String[] args) {
        if (!MEMORY.isThreadAllocatedMemorySupported()) {
            System.out.println("this machine does not tell what is taken");
            return;
        }
        MEMORY.setThreadAllocatedMemoryEnabled(true);
        run("a new object alone", false, (x, k) -> x.count(0));
        run("texts with faults", false, (x, k) -> k % 2 == 0 ? x.feed('s' << 8 | 's', 2) : x.cliff());
        run("feed", false, (x, k) -> x.feed(k, k % 5));
        run("choose and image and undo", true, (x, k) -> k % 3 == 0 ? x.image() : k % 3 == 1 ? x.choose(k % 4) : x.undo());
        run("loads", true, (x, k) -> x.stops(k % 12, k % 7, 1, k % 100) + x.pull(0, k % 12, 1, k % 7, 9));
        run("least", true, (x, k) -> x.least(k % 12, k % 7, 3));
        run("jump", true, (x, k) -> x.jump(k % 12, k % 7, 3));
        run("rule and row", true, (x, k) -> k % 2 == 0 ? x.rule(6, k % 21) : x.row(k % 12, 1));
        run("day", true, (x, k) -> x.day(k % 7, k % 6));
        run("waits", true, (x, k) -> x.waits(k % 2, k % 41, k % 9, 8 - k % 9, k / 2 % 2));
        run("bell", true, (x, k) -> x.bell());
        run("whit", true, (x, k) -> x.whit());
        run("buy", true, (x, k) -> x.buy(999));
        run("judge", true, (x, k) -> k < 12 ? x.item(0, k, -1) : x.judge(0, k % 3));
        run("act and trace", true, (x, k) -> k % 2 == 0 ? x.act(k % 7, k / 2 % 3, k) : x.trace(k % 9));
        run("tape", true, (x, k) -> x.tape(k % 6, k % 5, 60));
        run("shift", true, (x, k) -> x.shift(0, 0, 0, k % 3, 9) + x.read(0, 5));
        System.out.println(wrong == 0 ? "all runs have room" : wrong + " runs have not room enough");
        if (wrong != 0) {
            System.exit(1);
        }
    }

    /** Twice, so that what the machine takes for the classes themselves is not counted. */
    private static void run(String name, boolean isMade, Call call) {
        long took = 0;
        for (int way = 0; way < 2; way++) {
            long start = MEMORY.getThreadAllocatedBytes(Thread.currentThread().getId());
            CliffCars x = new CliffCars();
            int k = isMade ? make(x) : 0;
            for (; k < CALLS; k++) {
                answers += call.at(x, k);
            }
            took = MEMORY.getThreadAllocatedBytes(Thread.currentThread().getId()) - start;
        }
        if (took < 0 || took > ROOM) {
            wrong++;
            System.out.println(name + ": a run takes " + took + " bytes");
        }
    }

    /** A CLIFF on which many days can be, a crowd, four things, and a RULE of each KIND: how many calls that took. */
    private static int make(CliffCars x) {
        String text = "part 9;rope 1;head 1;pond 40;tank 60;seats 1;spring 3 s<6;drag 60 s=2|s=5;drag 99 s=3|s=8|s=7";
        int calls = 0;
        for (int k = 0; k < text.length(); k++, calls++) {
            x.feed(text.charAt(k), 1);
        }
        x.cliff();
        for (int k = 0; k < 12; k++, calls += 2) {
            x.come(k, 0, k * 5 % 3);
            x.come(k, 1, k * 7 % 3 + 1);
        }
        for (int k = 0; k < 7; k++, calls++) {
            x.rule(k, 3);
        }
        for (int sort = 0; sort < 4; sort++, calls++) {
            x.offer(sort, 2, 1);
        }
        x.pond(40);
        x.tape(0, 2, 60);
        return calls + 3;
    }
}
