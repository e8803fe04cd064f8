import com.sun.management.ThreadMXBean;
import java.lang.management.ManagementFactory;

/** What the program makes: all of it in the constructor, and little enough for the room of LANGUAGE.md's runs. */
public final class RoomTest {
    private static final long MOST_BYTES_OF_AN_OBJECT = 100_000;
    private static final long MOST_BYTES_OF_CALLS = 2_000;

    private static final ThreadMXBean THREADS = (ThreadMXBean) ManagementFactory.getThreadMXBean();

    public static void main(String[] args) {
        long answers = useAll(new OvertakingLoads());
        long start = made();
        OvertakingLoads x = new OvertakingLoads();
        long ofObject = made() - start;
        start = made();
        answers -= useAll(x);
        long ofCalls = made() - start;
        Check.holds("an object takes " + ofObject + " bytes", ofObject < MOST_BYTES_OF_AN_OBJECT);
        Check.holds("calls take " + ofCalls + " bytes", ofCalls < MOST_BYTES_OF_CALLS);
        Check.due("the same calls again", answers, 0);
        Check.end("RoomTest");
    }

    private static long made() {
        return THREADS.getCurrentThreadAllocatedBytes();
    }

    /** Some 500 calls, each method's among them; answers something that hangs on all answers. */
    private static long useAll(OvertakingLoads x) {
        long answers = 0;
        for (int i = 0; i < 20; i++) {
            answers = 31 * answers + x.store(i, 1 + i % 3, i, i % 5, i % 7);
            answers = 31 * answers + x.load(i, 1, 0, i % 8);
            answers = 31 * answers + x.clearText() + x.type('l') + x.type('9') + x.type(':') + x.type('2');
            answers = 31 * answers + x.fault() + x.addAll() + x.pass(2) + x.keep();
            answers = 31 * answers + x.set(i % 5, 1) + x.setCounter(i % 8, i % 4) + x.wipe();
            answers = 31 * answers + x.act(i, 3) + x.source(i, 0) + x.memory(i) + x.counter(i % 8) + x.plain(i);
            answers = 31 * answers + x.count(i) + x.doneIn() + x.ifGuessed(i % 3, 1) + x.bestGuess();
            answers = 31 * answers + x.leastQueue() + (i % 4 == 3 ? x.undo() + x.restore() : 0);
        }
        return answers;
    }
}
