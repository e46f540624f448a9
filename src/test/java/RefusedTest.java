/** Calls that throw change nothing, and throw what their throws clause names first. */
public final class RefusedTest {

    private static final Checks CHECKS = new Checks("RefusedTest");
    private static final int NONE = Wikiwright.NONE;
    private static final int FULL = 1;
    private static final int GUARDED = 2;
    private static final int BARE = 4;
    private static final int BARE_GUARDED = 5;
    private static final int LINES = 6;
    private static final int HIDDEN = 7;
    private static final int[] NO_USERS = {-1, 4, Integer.MAX_VALUE, Integer.MIN_VALUE};
    private static final int[] NO_PAGES = {-1, 12, Integer.MAX_VALUE, Integer.MIN_VALUE};

    /** A call of a wiki. */
    interface WikiCall {
        long answer(Wikiwright wiki);
    }

    private static long number(boolean answer) {
        return answer ? 1 : 0;
    }

    /** A wiki that has something of everything; its tape is what is given. */
    private static Wikiwright wikiWith(String tape) {
        Desk desk = new Desk();
        Wikiwright wiki = desk.wiki;
        wiki.rank(1, 1);
        for (int user = 0; user < 4; user++) {
            wiki.watch(user, user, true);
            wiki.watch(user, LINES, true);
        }
        desk.put('a', "{b}[c][#d]{@}{j}");
        desk.putBy(1, 'a', "{b|x}[c][#d]{@}{j}");
        for (int revision = 0; revision < 12; revision++) {
            desk.putBy(revision % 3, 'b', "b;{0}" + revision);
        }
        desk.put('c', "guarded");
        wiki.protect(GUARDED, 1, true);
        wiki.protect(BARE_GUARDED, 2, false);
        desk.put('d', ">i");
        desk.put('g', "p;q");
        desk.put('g', "p;r");
        desk.put('g', "s;r");
        desk.put('h', "hidden");
        wiki.hide(Desk.EDITOR, HIDDEN, 0);
        desk.put('i', "text");
        desk.put('k', "{d}{i}");
        wiki.move(0, 8, 9);
        wiki.pass(9);
        desk.tape(tape);
        return wiki;
    }

    /** The call throws, and a twin that never heard it answers all the same then. */
    private static void refuses(String tape, String what, Class<? extends RuntimeException> want,
            WikiCall call) {
        Wikiwright wiki = wikiWith(tape);
        CHECKS.dueThrow(what, want, () -> call.answer(wiki));
        CHECKS.due(what + " changes nothing", State.of(wiki), State.of(wikiWith(tape)));
    }

    private static void noSuch(String what, WikiCall call) {
        refuses("p;x", what, IndexOutOfBoundsException.class, call);
        refuses("{", what + ", with a fault", IndexOutOfBoundsException.class, call);
    }

    private static void badArgument(String tape, String what, WikiCall call) {
        refuses(tape, what, IllegalArgumentException.class, call);
    }

    private static void badState(String tape, String what, WikiCall call) {
        refuses(tape, what, IllegalStateException.class, call);
    }

    private static void refusedTyping() {
        for (int code : new int[] {0, 31, 127, 128, 255, 256, 65535}) {
            badArgument("p;x", "type " + code, wiki -> wiki.type((char) code));
            badArgument("x".repeat(60), "type behind 60: " + code, wiki -> wiki.type((char) code));
        }
        badState("x".repeat(60), "type behind 60", wiki -> wiki.type('x'));
        badState("{".repeat(60), "type behind 60 with a fault", wiki -> wiki.type('~'));
        badState("", "search with nothing", Wikiwright::search);
    }

    private static void savesOfNoSuch() {
        for (int number : NO_USERS) {
            noSuch("save: user " + number, wiki -> wiki.save(number, GUARDED, 0));
        }
        for (int number : NO_PAGES) {
            noSuch("save: page " + number, wiki -> wiki.save(0, number, 0));
            noSuch("save: page " + number + " without a base", wiki -> wiki.save(0, number, NONE));
        }
        for (int base : new int[] {NONE, -2, 1, 12, Integer.MAX_VALUE, Integer.MIN_VALUE}) {
            noSuch("save: base " + base, wiki -> wiki.save(0, GUARDED, base));
        }
        for (int base : new int[] {0, -2, 1, Integer.MAX_VALUE, Integer.MIN_VALUE}) {
            noSuch("save: base of none " + base, wiki -> wiki.save(0, BARE_GUARDED, base));
        }
        for (int base : new int[] {NONE, -2, 12}) {
            noSuch("save: base of twelve " + base, wiki -> wiki.save(0, FULL, base));
        }
    }

    private static void refusedSaves() {
        for (String fault : new String[] {"{", "p;)", ">m", ">", ">ab", "'", "(((((((((", "A"}) {
            badArgument(fault, "save " + fault, wiki -> wiki.save(0, LINES, 2));
            badArgument(fault, "save, guarded, " + fault, wiki -> wiki.save(0, GUARDED, 0));
            badArgument(fault, "save, full, " + fault, wiki -> wiki.save(0, FULL, 11));
            badArgument(fault, "save, bare, " + fault, wiki -> wiki.save(0, BARE, NONE));
            badArgument(fault, "save, merged, " + fault, wiki -> wiki.save(0, LINES, 0));
        }
        badState("p;x", "save: rank 0 of 1", wiki -> wiki.save(0, GUARDED, 0));
        badState("p;x", "save: rank 1 of 2", wiki -> wiki.save(1, BARE_GUARDED, NONE));
        badState("p;x", "save: rank 2 of 2, in vain", wiki -> wiki.save(3, FULL, 11));
        badState("p;x", "save: the 13th", wiki -> wiki.save(0, FULL, 11));
        badState("b;x", "save: the 13th, merged", wiki -> wiki.save(0, FULL, 4));
        badState("p;x", "save: two lines at odds", wiki -> wiki.save(0, LINES, 0));
        badState("x;q", "save: a line at odds", wiki -> wiki.save(0, LINES, 0));
        badState("p;q;", "save: one more line", wiki -> wiki.save(0, LINES, 0));
        badState("", "save: one line less", wiki -> wiki.save(0, LINES, 0));
    }

    private static void refusedUndoing() {
        for (int number : NO_USERS) {
            noSuch("undo: user " + number, wiki -> wiki.undo(number, GUARDED, 0));
        }
        for (int number : NO_PAGES) {
            noSuch("undo: page " + number, wiki -> wiki.undo(0, number, 0));
        }
        for (int revision : new int[] {NONE, 1, 12, Integer.MAX_VALUE, Integer.MIN_VALUE}) {
            noSuch("undo: revision " + revision, wiki -> wiki.undo(0, GUARDED, revision));
            noSuch("undo: none: " + revision, wiki -> wiki.undo(0, BARE_GUARDED, revision));
        }
        noSuch("undo: revision 12 of 12", wiki -> wiki.undo(0, FULL, 12));
        noSuch("undo: revision 0 of none", wiki -> wiki.undo(0, BARE, 0));
        badState("p;x", "undo: rank 0 of 1", wiki -> wiki.undo(0, GUARDED, 0));
        badState("p;x", "undo: the 13th", wiki -> wiki.undo(0, FULL, 11));
        badState("p;x", "undo: the first, of two lines", wiki -> wiki.undo(0, LINES, 0));
    }

    private static void refusedMoves() {
        for (int number : NO_USERS) {
            noSuch("move: user " + number, wiki -> wiki.move(number, GUARDED, FULL));
        }
        for (int number : NO_PAGES) {
            noSuch("move: page " + number, wiki -> wiki.move(0, number, BARE_GUARDED));
            noSuch("move: to " + number, wiki -> wiki.move(0, GUARDED, number));
            noSuch("move: none to " + number, wiki -> wiki.move(0, BARE, number));
        }
        badState("p;x", "move: rank 0 of 1", wiki -> wiki.move(0, GUARDED, BARE));
        badState("p;x", "move: to what rank 0 may not", wiki -> wiki.move(0, LINES, BARE_GUARDED));
        badState("p;x", "move: to what rank 1 may not", wiki -> wiki.move(1, LINES, BARE_GUARDED));
        badState("p;x", "move: nothing", wiki -> wiki.move(3, BARE, 10));
        badState("p;x", "move: nothing to nothing", wiki -> wiki.move(3, BARE, BARE_GUARDED));
        badState("p;x", "move: to some", wiki -> wiki.move(3, LINES, FULL));
        badState("p;x", "move: to itself", wiki -> wiki.move(3, LINES, LINES));
        badState("p;x", "move: nothing to itself", wiki -> wiki.move(3, BARE, BARE));
    }

    private static void refusedHiding() {
        for (int number : NO_USERS) {
            noSuch("hide: user " + number, wiki -> number(wiki.hide(number, HIDDEN, 0)));
        }
        for (int number : NO_PAGES) {
            noSuch("hide: page " + number, wiki -> number(wiki.hide(0, number, 0)));
        }
        for (int revision : new int[] {NONE, 1, 12, Integer.MAX_VALUE, Integer.MIN_VALUE}) {
            noSuch("hide: revision " + revision, wiki -> number(wiki.hide(0, HIDDEN, revision)));
            noSuch("hide: none: " + revision, wiki -> number(wiki.hide(3, BARE, revision)));
        }
        badState("p;x", "hide: rank 0", wiki -> number(wiki.hide(0, LINES, 0)));
        badState("p;x", "hide: rank 1", wiki -> number(wiki.hide(1, LINES, 2)));
        badState("p;x", "show again: rank 1", wiki -> number(wiki.hide(1, HIDDEN, 0)));
    }

    private static void refusedTelling() {
        for (int number : NO_USERS) {
            noSuch("text: user " + number, wiki -> wiki.text(number, HIDDEN, 0, 0));
        }
        for (int number : NO_PAGES) {
            noSuch("text: page " + number, wiki -> wiki.text(0, number, 0, 0));
            noSuch("revisions of " + number, wiki -> wiki.revisions(number));
            noSuch("author: page " + number, wiki -> wiki.author(number, 0));
            noSuch("differs: page " + number, wiki -> wiki.differs(number, 0, 0));
        }
        for (int revision : new int[] {NONE, 1, 12, Integer.MAX_VALUE, Integer.MIN_VALUE}) {
            noSuch("text: revision " + revision, wiki -> wiki.text(0, HIDDEN, revision, 0));
            noSuch("author: revision " + revision, wiki -> wiki.author(HIDDEN, revision));
            noSuch("differs: one is " + revision, wiki -> wiki.differs(HIDDEN, revision, 0));
            noSuch("differs: other is " + revision, wiki -> wiki.differs(HIDDEN, 0, revision));
        }
        badState("p;x", "text: hidden from 0", wiki -> wiki.text(0, HIDDEN, 0, 0));
        badState("p;x", "text: hidden from 1", wiki -> wiki.text(1, HIDDEN, 0, 5));
        badState("p;x", "text: hidden, beyond", wiki -> wiki.text(1, HIDDEN, 0, 7));
        badState("p;x", "text: hidden, below", wiki -> wiki.text(1, HIDDEN, 0, -1));
    }

    private static void refusedLooks() {
        for (int number : NO_PAGES) {
            noSuch("size of " + number, wiki -> wiki.size(number));
            noSuch("shown: page " + number, wiki -> wiki.shown(number, 0));
            noSuch("shownAnew: page " + number, wiki -> wiki.shownAnew(number, 0));
            noSuch("isFresh of " + number, wiki -> number(wiki.isFresh(number)));
            noSuch("links of " + number, wiki -> wiki.links(number));
            noSuch("linked to " + number, wiki -> wiki.linked(number));
            noSuch("labels of " + number, wiki -> wiki.labels(number));
            noSuch("stands of " + number, wiki -> wiki.stands(number));
            noSuch("needs of " + number, wiki -> wiki.needs(number));
        }
        for (int place : new int[] {-1, 7, Integer.MAX_VALUE, Integer.MIN_VALUE}) {
            noSuch("shown at " + place, wiki -> wiki.shown(GUARDED, place));
            noSuch("shown of none at " + place, wiki -> wiki.shown(BARE, place));
        }
        noSuch("shown of none at 0", wiki -> wiki.shown(BARE, 0));
        noSuch("shownAnew at -1", wiki -> wiki.shownAnew(0, -1));
        noSuch("shownAnew at the least", wiki -> wiki.shownAnew(0, Integer.MIN_VALUE));
    }

    private static void refusedJobsAndTicks() {
        for (int jobs : new int[] {0, -1, 21, Integer.MAX_VALUE, Integer.MIN_VALUE}) {
            badArgument("p;x", "work " + jobs, wiki -> wiki.work(jobs));
        }
        for (int ticks : new int[] {0, -1, 10, Integer.MAX_VALUE, Integer.MIN_VALUE}) {
            badArgument("p;x", "pass " + ticks, wiki -> wiki.pass(ticks));
        }
    }

    private static Wikiwright lateWiki() {
        Wikiwright wiki = wikiWith("p;x");
        for (int passed = 0; passed < 109; passed++) {
            wiki.pass(9);
        }
        wiki.work(20);
        return wiki;
    }

    private static void refusedLateTicks() {
        Wikiwright wiki = lateWiki();
        CHECKS.due("the late tick", wiki.pass(2), 992);
        wiki.work(20);
        CHECKS.dueBadState("992 and 8", () -> wiki.pass(8));
        CHECKS.dueBadState("992 and 9", () -> wiki.pass(9));
        CHECKS.dueBadArgument("992 and 10", () -> wiki.pass(10));
        CHECKS.dueBadArgument("992 and none", () -> wiki.pass(0));
        Wikiwright twin = lateWiki();
        twin.pass(2);
        twin.work(20);
        CHECKS.due("late ticks change nothing", State.of(wiki), State.of(twin));
        Wikiwright last = lateWiki();
        CHECKS.due("the last tick", last.pass(9), 999);
        CHECKS.dueBadArgument("999 and 10", () -> last.pass(10));
        CHECKS.dueBadState("999 and 1", () -> last.pass(1));
    }

    private static void refusedRights() {
        for (int number : NO_USERS) {
            noSuch("rank: user " + number, wiki -> wiki.rank(number, 1));
            noSuch("rank: user " + number + ", rank 3", wiki -> wiki.rank(number, 3));
            noSuch("watch: user " + number, wiki -> number(wiki.watch(number, 0, false)));
            noSuch("news: user " + number, wiki -> wiki.news(number));
        }
        for (int number : NO_PAGES) {
            noSuch("protect: page " + number, wiki -> wiki.protect(number, 1, true));
            noSuch("protect: page " + number + " by 3", wiki -> wiki.protect(number, 3, true));
            noSuch("watch: page " + number, wiki -> number(wiki.watch(0, number, false)));
        }
        for (int rank : new int[] {-1, 3, Integer.MAX_VALUE, Integer.MIN_VALUE}) {
            badArgument("p;x", "rank " + rank, wiki -> wiki.rank(1, rank));
            badArgument("p;x", "protect by " + rank, wiki -> wiki.protect(GUARDED, rank, false));
        }
    }

    /** What only asks changes nothing either. */
    private static void asks(String what, WikiCall call) {
        Wikiwright wiki = wikiWith("p;x");
        call.answer(wiki);
        CHECKS.due(what + " changes nothing", State.of(wiki), State.of(wikiWith("p;x")));
    }

    private static void asking() {
        asks("fault", Wikiwright::fault);
        asks("search", Wikiwright::search);
        asks("waiting", Wikiwright::waiting);
        for (int number = 0; number < 12; number++) {
            int page = number;
            asks("revisions", wiki -> wiki.revisions(page));
            asks("size", wiki -> wiki.size(page));
            asks("shownAnew", wiki -> wiki.shownAnew(page, 0));
            asks("isFresh", wiki -> number(wiki.isFresh(page)));
            asks("links", wiki -> wiki.links(page));
            asks("linked", wiki -> wiki.linked(page));
            asks("labels", wiki -> wiki.labels(page));
            asks("stands", wiki -> wiki.stands(page));
            asks("needs", wiki -> wiki.needs(page));
        }
        asks("author", wiki -> wiki.author(FULL, 11));
        asks("text", wiki -> wiki.text(3, HIDDEN, 0, 0));
        asks("differs", wiki -> wiki.differs(LINES, 0, 2));
        asks("shown", wiki -> wiki.shown(GUARDED, 6));
    }

    private static void takes(String what, long want, WikiCall call) {
        CHECKS.due(what, call.answer(wikiWith("p;x")), want);
    }

    /** The least and the greatest that each argument may be. */
    private static void endsOfRanges() {
        takes("type the least", 4, wiki -> wiki.type((char) 32));
        takes("type the greatest", 4, wiki -> wiki.type((char) 126));
        takes("save by 0", 2, wiki -> wiki.save(0, 0, 1));
        takes("save by 3", 0, wiki -> wiki.save(3, 11, NONE));
        takes("save on the first", 3, wiki -> wiki.save(0, LINES, 2));
        takes("undo by 0", 2, wiki -> wiki.undo(0, 0, 1));
        takes("undo by 3", 3, wiki -> wiki.undo(3, LINES, 2));
        takes("move by 0", 2, wiki -> wiki.move(0, 0, 11));
        takes("move by 3", 1, wiki -> wiki.move(3, GUARDED, BARE_GUARDED));
        takes("hide by 3", 1, wiki -> number(wiki.hide(3, FULL, 11)));
        takes("show again by 3", 0, wiki -> number(wiki.hide(3, HIDDEN, 0)));
        takes("author", 3, wiki -> wiki.author(0, 0));
        takes("author of the last one", 2, wiki -> wiki.author(FULL, 11));
        takes("text by 0", '{', wiki -> wiki.text(0, 0, 0, 0));
        takes("text by 3", 'n', wiki -> wiki.text(3, HIDDEN, 0, 5));
        takes("text by 3 at its end", 6, wiki -> wiki.text(3, HIDDEN, 0, 6));
        takes("text by 3 beyond", NONE, wiki -> wiki.text(3, HIDDEN, 0, 7));
        takes("shown first", 'g', wiki -> wiki.shown(GUARDED, 0));
        takes("shown last", 'd', wiki -> wiki.shown(GUARDED, 6));
        takes("shownAnew last", 'd', wiki -> wiki.shownAnew(GUARDED, 6));
        takes("shownAnew behind", NONE, wiki -> wiki.shownAnew(GUARDED, 7));
        takes("rank least", 2, wiki -> wiki.rank(3, 0));
        takes("rank greatest", 0, wiki -> wiki.rank(0, 2));
        takes("protect least", 1, wiki -> wiki.protect(2, 1, false));
        takes("protect first page", 2, wiki -> wiki.protect(0, 2, false));
        takes("protect last page", 0, wiki -> wiki.protect(11, 0, false));
        takes("watch", 1, wiki -> number(wiki.watch(3, 3, true)));
        takes("watch last page", 0, wiki -> number(wiki.watch(0, 11, true)));
    }

    public static void main(String[] args) {
        refusedTyping();
        savesOfNoSuch();
        refusedSaves();
        refusedUndoing();
        refusedMoves();
        refusedHiding();
        refusedTelling();
        refusedLooks();
        refusedJobsAndTicks();
        refusedLateTicks();
        refusedRights();
        asking();
        endsOfRanges();
        CHECKS.finish();
    }
}
