/** Promises 22 to 24: the queue, its jobs, and the ticks. */
public final class QueueTest {

    private static final Checks CHECKS = new Checks("QueueTest");

    private static void queueing() {
        Desk desk = new Desk();
        Wikiwright wiki = desk.wiki;
        desk.put('e', "{b}");
        desk.put('c', "{b}");
        desk.put('a', "{d}");
        desk.put('b', "{b}x");
        CHECKS.due("those that stand on it wait, not itself", wiki.waiting(), 2);
        desk.put('d', "y");
        CHECKS.due("one more waits behind them", wiki.waiting(), 3);
        desk.put('b', "{b}z");
        CHECKS.due("none waits twice", wiki.waiting(), 3);
        CHECKS.due("work one off", wiki.work(1), 1);
        CHECKS.due("rising: first", desk.shown('c'), "!z");
        CHECKS.due("rising: not yet", desk.shown('e'), "b");
        CHECKS.due("work one more off", wiki.work(1), 1);
        CHECKS.due("rising: second", desk.shown('e'), "!z");
        CHECKS.due("behind those that were there", desk.shown('a'), "d");
        CHECKS.due("as many as there are", wiki.work(20), 1);
        CHECKS.due("the last one", desk.shown('a'), "y");
        CHECKS.due("none is left", wiki.waiting(), 0);
        CHECKS.due("nothing to do", wiki.work(20), 0);
    }

    private static void expandingQueuesNone() {
        Desk desk = new Desk();
        desk.put('c', "{b}");
        desk.put('b', "{a}");
        desk.wiki.work(20);
        desk.put('a', "x");
        CHECKS.due("all that stand on it wait", desk.wiki.waiting(), 2);
        desk.wiki.work(1);
        CHECKS.due("what is worked off brings none in", desk.wiki.waiting(), 1);
        desk.wiki.work(1);
        CHECKS.due("caught up", desk.shown('c'), "x");
    }

    private static void aSaveLeavesTheQueue() {
        Desk desk = new Desk();
        desk.put('a', "{b}");
        desk.put('b', "x");
        CHECKS.due("it waits", desk.wiki.waiting(), 1);
        desk.put('a', "y");
        CHECKS.due("it waits still", desk.wiki.waiting(), 1);
        CHECKS.due("it is fresh all the same", desk.isFresh('a'), true);
    }

    /** A page a that redirects to b, which was moved to c. */
    private static Desk moved() {
        Desk desk = new Desk();
        desk.put('b', "text");
        desk.put('a', ">b");
        desk.wiki.move(0, 1, 2);
        return desk;
    }

    private static void doubleRedirects() {
        Desk desk = moved();
        desk.put('d', "{a}");
        CHECKS.due("a redirect waits", desk.wiki.waiting(), 1);
        desk.wiki.work(1);
        CHECKS.due("its text becomes another", desk.lastText('a'), ">c");
        CHECKS.due("by a revision", desk.wiki.revisions(0), 2);
        CHECKS.due("of nobody", desk.wiki.author(0, 1), Wikiwright.NONE);
        CHECKS.due("it is expanded", desk.shown('a'), ">c");
        CHECKS.due("it links there", desk.links('a'), Desk.bits("c"));
        CHECKS.due("those that stand on it wait then", desk.wiki.waiting(), 1);
        desk.wiki.work(1);
        CHECKS.due("they find the text", desk.shown('d'), "text");
    }

    private static void fullRedirects() {
        Desk desk = new Desk();
        desk.put('b', "text");
        for (int revision = 0; revision < 12; revision++) {
            desk.put('a', ">b");
        }
        desk.wiki.move(0, 1, 2);
        CHECKS.due("it is worked off", desk.wiki.work(1), 1);
        CHECKS.due("no thirteenth revision", desk.wiki.revisions(0), 12);
        CHECKS.due("its text stays", desk.lastText('a'), ">b");
    }

    private static void circles() {
        Desk desk = new Desk();
        desk.put('b', ">a");
        desk.put('a', ">b");
        desk.wiki.move(0, 0, 2);
        CHECKS.due("one of a circle waits", desk.wiki.waiting(), 1);
        desk.wiki.work(1);
        CHECKS.due("a third page is another", desk.lastText('b'), ">c");
        Desk self = new Desk();
        self.put('a', ">a");
        self.wiki.move(0, 0, 1);
        CHECKS.due("the moved one waits", self.wiki.waiting(), 1);
        self.wiki.work(1);
        CHECKS.due("the page itself is no third", self.lastText('b'), ">a");
        self.put('c', ">d");
        self.put('d', ">d");
        self.put('e', ">c");
        self.wiki.move(0, 2, 5);
        self.wiki.work(20);
        CHECKS.due("behind one redirect", self.lastText('e'), ">f");
        self.put('g', ">h");
        self.put('h', ">h");
        self.wiki.move(0, 7, 8);
        self.wiki.work(20);
        CHECKS.due("what led to itself leads to its old place", self.lastText('i'), ">h");
    }

    /** The second redirect leads to itself: that is no third page. */
    private static void redirectToItself() {
        Desk desk = new Desk();
        desk.put('b', "text");
        desk.put('a', ">b");
        desk.wiki.move(0, 1, 2);
        desk.put('b', ">b");
        desk.wiki.work(20);
        CHECKS.due("no third page", desk.lastText('a'), ">b");
        CHECKS.due("no revision", desk.wiki.revisions(0), 1);
    }

    private static void passing() {
        Desk desk = new Desk();
        Wikiwright wiki = desk.wiki;
        desk.put('l', "{@}");
        desk.put('b', "{a|{@}}");
        desk.put('c', "{?x|y|{@}}");
        desk.put('d', "{l}");
        CHECKS.due("nine ticks", wiki.pass(9), 9);
        CHECKS.due("short-lived ones wait", wiki.waiting(), 3);
        CHECKS.due("not fresh", desk.isFresh('l'), false);
        CHECKS.due("fresh: its time is not shown", desk.isFresh('b'), true);
        CHECKS.due("one more tick", wiki.pass(1), 10);
        CHECKS.due("none waits twice", wiki.waiting(), 3);
        wiki.work(1);
        CHECKS.due("rising: the first is out", wiki.waiting(), 2);
        wiki.work(1);
        CHECKS.due("rising: the second", desk.shown('d'), "10");
        CHECKS.due("rising: not yet the third", desk.shown('l'), "0");
        wiki.work(1);
        CHECKS.due("rising: the third", desk.shown('l'), "10");
        desk.put('l', "0");
        wiki.work(20);
        wiki.pass(1);
        CHECKS.due("no longer short-lived", wiki.waiting(), 1);
    }

    private static void tooManyTicks() {
        Wikiwright wiki = new Wikiwright();
        CHECKS.dueBadArgument("no ticks", () -> wiki.pass(0));
        CHECKS.dueBadArgument("fewer", () -> wiki.pass(-1));
        CHECKS.dueBadArgument("ten ticks", () -> wiki.pass(10));
        CHECKS.dueBadArgument("far too many", () -> wiki.pass(Integer.MAX_VALUE));
        for (int passed = 0; passed < 110; passed++) {
            wiki.pass(9);
        }
        CHECKS.due("late", wiki.pass(1), 991);
        CHECKS.dueBadState("too late", () -> wiki.pass(9));
        CHECKS.due("nothing passed", wiki.pass(8), 999);
        CHECKS.dueBadState("the last tick was", () -> wiki.pass(1));
        CHECKS.dueBadArgument("the argument comes first", () -> wiki.pass(10));
    }

    private static void wrongJobs() {
        Wikiwright wiki = new Wikiwright();
        CHECKS.dueBadArgument("no jobs", () -> wiki.work(0));
        CHECKS.dueBadArgument("fewer", () -> wiki.work(-7));
        CHECKS.dueBadArgument("too many", () -> wiki.work(21));
        CHECKS.due("the least", wiki.work(1), 0);
        CHECKS.due("the most", wiki.work(20), 0);
    }

    public static void main(String[] args) {
        queueing();
        expandingQueuesNone();
        aSaveLeavesTheQueue();
        doubleRedirects();
        fullRedirects();
        circles();
        redirectToItself();
        passing();
        tooManyTicks();
        wrongJobs();
        CHECKS.finish();
    }
}
