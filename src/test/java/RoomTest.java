import com.sun.management.ThreadMXBean;
import java.lang.management.ManagementFactory;

/** What a run makes: all rows stand ready in the constructor, and the dearest calls make next to nothing. */
public final class RoomTest {
    private static final ThreadMXBean BEAN = (ThreadMXBean) ManagementFactory.getThreadMXBean();

    public static void main(String[] args) {
        RunJudge warm = new RunJudge();
        run(warm);
        long before = made();
        RunJudge x = new RunJudge();
        long forTheObject = made() - before;
        before = made();
        run(x);
        long forTheCalls = made() - before;
        Check.due("a new object stays below 256 KiB", forTheObject < 256 << 10 ? 1 : 0, 1);
        Check.due("507 calls stay below 64 KiB: " + forTheCalls, forTheCalls < 64 << 10 ? 1 : 0, 1);
        Check.end("RoomTest");
    }

    private static long made() {
        return BEAN.getThreadAllocatedBytes(Thread.currentThread().getId());
    }

    private static void run(RunJudge x) {
        x.begin(10, 10, 4);
        for (int i = 0; i < 11; i++) x.place(1 + i % 2, 44 + i);
        for (int t = 0; t < 55; t++) {
            x.feed(0, x.pack(1, t & 3, 0, t, t));
            x.step();
            x.replay(t);
            x.fall();
            x.view(t % 6, 0);
            x.toss(t % 6);
            x.tape(t % 6, 4, 80);
            x.letter(0, t);
        }
    }
}
