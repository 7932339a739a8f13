import com.sun.management.ThreadMXBean;
import java.lang.management.ManagementFactory;

/** Only the constructor makes objects; the calls live in what it has made. */
public final class RoomTest {
    private static final int CALLS = 20000;

    public static void main(String[] args) {
        ThreadMXBean threads = (ThreadMXBean) ManagementFactory.getThreadMXBean();
        FoldedMenu x = new FoldedMenu();
        callAll(x);
        long thread = Thread.currentThread().getId();
        long before = threads.getThreadAllocatedBytes(thread);
        for (int i = 0; i < CALLS; i++) {
            callAll(x);
        }
        long made = threads.getThreadAllocatedBytes(thread) - before;
        Due.due("bytes for each round of calls", made / CALLS, 0);
        before = threads.getThreadAllocatedBytes(thread);
        new FoldedMenu();
        made = threads.getThreadAllocatedBytes(thread) - before;
        Due.due("a new object has less than 60000 bytes: " + made, made < 60000 ? 1 : 0, 1);
        Due.end();
    }

    private static void callAll(FoldedMenu x) {
        x.clearText();
        for (int i = 0; i < 6; i++) {
            x.append("0:9$9;".charAt(i));
        }
        x.addDish(0, 99, 9999, 15, 255, 5);
        x.addDish(3, 99, 9999, 15, 255, 5);
        x.load();
        x.take(0);
        x.take(1);
        x.setCard(1, 20);
        x.setDish(0, 1, 50);
        x.setSide(1, 1);
        x.arrange();
        x.bestSides(2);
        x.bestSet(0, 150, 4, 2);
        x.choose(0, 0, 4);
        x.restore(0);
        for (int i = 0; i < 16; i++) {
            x.count(i);
        }
        x.line(0, 7, 5);
        x.line(1, 2, 4);
        x.dish(0, 8);
        x.account(0, 4);
        x.why(0);
        x.replacement(0);
        x.evenSeasons();
        x.printedFor(3);
        x.removeDish(2);
        x.undo();
    }
}
