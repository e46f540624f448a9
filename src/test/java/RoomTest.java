import com.sun.management.ThreadMXBean;
import java.lang.management.ManagementFactory;

/** All calls live in one room: what a wiki needs is made with it, and calls make nothing more. */
public final class RoomTest {

    private static final Checks CHECKS = new Checks("RoomTest");
    private static final ThreadMXBean THREADS =
            (ThreadMXBean) ManagementFactory.getThreadMXBean();
    private static final char[][] TEXTS = {
        "{b|{c|x}|y}{#q|p=1|q|r=2}[d|{@}]".toCharArray(),
        "{c|{0}}{0}{+1+2*3}{?{1}|{1}|-};l".toCharArray(),
        "{0|n}<[#k]>({b|1}){=a|a|{d}|n};l".toCharArray(),
        ">a".toCharArray()};

    private static int uses(Wikiwright wiki) {
        int sum = 0;
        for (int turn = 0; turn < 10; turn++) {
            for (int page = 0; page < TEXTS.length; page++) {
                for (char sign : TEXTS[page]) {
                    sum += wiki.type(sign);
                }
                sum += wiki.search() + wiki.fault() + wiki.save(0, page, wiki.revisions(page) - 1);
                sum += wiki.shownAnew(page, 3) + (wiki.isFresh(page) ? 1 : 0);
            }
            sum += wiki.pass(9) + wiki.work(20) + wiki.differs(0, turn, 0);
        }
        return sum + wiki.undo(0, 0, 9) + wiki.move(0, 1, 7) + wiki.work(20);
    }

    public static void main(String[] args) {
        long least = Long.MAX_VALUE;
        int sum = 0;
        for (int round = 0; round < 20; round++) {
            Wikiwright wiki = new Wikiwright();
            long before = THREADS.getCurrentThreadAllocatedBytes();
            sum += uses(wiki);
            least = Math.min(least, THREADS.getCurrentThreadAllocatedBytes() - before);
        }
        CHECKS.due("the calls were made", sum != 0, true);
        CHECKS.due("calls make at most what asking makes (" + least + " bytes)", least < 256, true);
        long before = THREADS.getCurrentThreadAllocatedBytes();
        Wikiwright wiki = new Wikiwright();
        long made = THREADS.getCurrentThreadAllocatedBytes() - before;
        CHECKS.due("a wiki is small (" + made + " bytes)", made < 100000, true);
        CHECKS.due("it was made", wiki.waiting(), 0);
        CHECKS.finish();
    }
}
