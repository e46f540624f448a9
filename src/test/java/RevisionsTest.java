/** Promises 5 to 12: saving, undoing, moving and hiding, and what is told of revisions. */
public final class RevisionsTest {

    private static final Checks CHECKS = new Checks("RevisionsTest");
    private static final int EDITOR = Desk.EDITOR;

    private static void saving() {
        Desk desk = new Desk();
        CHECKS.due("the first save", desk.putOn('a', Wikiwright.NONE, "one"), 0);
        CHECKS.due("the tape is empty then", desk.wiki.wipe(), 0);
        CHECKS.due("the second save", desk.putOn('a', 0, "two"), 1);
        CHECKS.due("the last text", desk.lastText('a'), "two");
        CHECKS.due("the first text", desk.text('a', 0), "one");
        CHECKS.due("an empty text", desk.putOn('b', Wikiwright.NONE, ""), 0);
        CHECKS.due("another text is left alone", desk.wiki.revisions(2), 0);
        CHECKS.due("the same text once more", desk.putOn('a', 1, "two"), 2);
    }

    private static void savingWrongly() {
        Desk desk = new Desk();
        Wikiwright wiki = desk.wiki;
        desk.put('a', "x");
        desk.tape("{");
        wiki.protect(1, 1, false);
        CHECKS.dueOutOfBounds("save: user below", () -> wiki.save(-1, 0, 0));
        CHECKS.dueOutOfBounds("save: user above", () -> wiki.save(4, 0, 0));
        CHECKS.dueOutOfBounds("save: page below", () -> wiki.save(0, -1, 0));
        CHECKS.dueOutOfBounds("save: page above", () -> wiki.save(0, 12, 0));
        CHECKS.dueOutOfBounds("save: base above", () -> wiki.save(0, 0, 1));
        CHECKS.dueOutOfBounds("save: base below", () -> wiki.save(0, 0, -2));
        CHECKS.dueOutOfBounds("save: no base", () -> wiki.save(0, 0, Wikiwright.NONE));
        CHECKS.dueOutOfBounds("save: base of no revision", () -> wiki.save(0, 1, 0));
        CHECKS.dueOutOfBounds("save: base below of no revision", () -> wiki.save(0, 1, -2));
        CHECKS.dueBadArgument("save: fault", () -> wiki.save(0, 0, 0));
        CHECKS.dueBadArgument("save: fault ahead of rights", () -> wiki.save(0, 1, -1));
        desk.tape("x");
        CHECKS.dueBadState("save: rights", () -> wiki.save(0, 1, -1));
        CHECKS.due("the tape stays", wiki.wipe(), 1);
        CHECKS.due("nothing was saved", wiki.revisions(1), 0);
        for (int revision = 1; revision < 12; revision++) {
            CHECKS.due("save up to twelve", desk.put('a', "" + revision), revision);
        }
        CHECKS.dueBadState("save: the thirteenth", () -> desk.put('a', "y"));
        CHECKS.due("no thirteenth", wiki.revisions(0), 12);
        CHECKS.dueBadState("undo: the thirteenth", () -> wiki.undo(EDITOR, 0, 11));
    }

    private static void merged(String base, String last, String typed, String want) {
        Desk desk = new Desk();
        desk.put('a', base);
        desk.put('a', last);
        String what = "merging " + typed + " with " + last + " over " + base;
        if (want == null) {
            CHECKS.dueBadState(what, () -> desk.putOn('a', 0, typed));
            CHECKS.due(what + ": the tape stays", desk.wiki.wipe(), typed.length());
            CHECKS.due(what + ": no revision", desk.wiki.revisions(0), 2);
        } else {
            CHECKS.due(what, desk.putOn('a', 0, typed), 2);
            CHECKS.due(what, desk.lastText('a'), want);
        }
    }

    private static void merging() {
        merged("a;b;c", "x;b;c", "a;b;y", "x;b;y");
        merged("a;b;c", "x;b;c", "x;y;c", "x;y;c");
        merged("a;b;c", "x;b;c", "y;b;c", null);
        merged("a;b;c", "a;b", "x;b;c", null);
        merged("a;b;c", "x;b;c", "a;b;c;d", null);
        merged("a;b;c", "a;b", "a;b;c", "a;b");
        merged("a;b;c", "a;b;c", "d", "d");
        merged("a;b", "x;b", "a;", "x;");
        merged("", "x", "x", "x");
        merged("", "x", "y", null);
        merged("a;", "b;", "a;c", "b;c");
        merged("a;;c;;", "b;;c;;d", "a;;e;;", "b;;e;;d");
        String long29 = "x".repeat(29);
        merged("a;b", long29 + "x;b", "a;" + long29, long29 + "x;" + long29);
        merged("a;b", long29 + "x;b", "a;" + long29 + "x", null);
    }

    private static void mergingIntoFaults() {
        merged("{a|x;y}", "{a|x;y|z}", "{0|x;y}", null);
        merged("{a|x;y}", "{0|x;y}", "{a|x;y|z}", null);
        merged("{a|x;y}", "{a|x;z}", "{0|x;y}", "{0|x;z}");
        merged("a;b;c;d", "(a;b;c);d", "a;[b|b;c;d]", null);
        merged("a;b;c;d", "(a;b;c;d)", "a;[b|b;c];d", "(a;[b|b;c];d)");
        merged("a;b;c;d", "'a;b;c';d", "a;'b;c;d'", "'a;'b;c';d'");
        merged("a;b;c;d", "'a;b;c';d", "a;(b;c;d)", null);
    }

    private static void undoing() {
        Desk desk = new Desk();
        desk.put('a', "a;b;c");
        desk.put('a', "x;b;c");
        desk.put('a', "x;b;y");
        CHECKS.due("undo in the middle", desk.wiki.undo(0, 0, 1), 3);
        CHECKS.due("undone in the middle", desk.lastText('a'), "a;b;y");
        CHECKS.due("undo the last", desk.wiki.undo(1, 0, 3), 4);
        CHECKS.due("undone the last", desk.lastText('a'), "x;b;y");
        CHECKS.due("its author", desk.wiki.author(0, 4), 1);
        CHECKS.dueBadState("undo the first, of other lines", () -> desk.wiki.undo(0, 0, 0));
        desk.put('b', "x");
        CHECKS.due("undo the first", desk.wiki.undo(0, 1, 0), 1);
        CHECKS.due("undone the first", desk.lastText('b'), "");
        CHECKS.due("shown then", desk.shown('b'), "");
        desk.tape("kept");
        desk.wiki.undo(0, 1, 1);
        CHECKS.due("undo leaves the tape", desk.wiki.wipe(), 4);
        CHECKS.due("undone the undoing", desk.lastText('b'), "x");
    }

    private static void undoingWrongly() {
        Desk desk = new Desk();
        Wikiwright wiki = desk.wiki;
        desk.put('a', "x");
        wiki.protect(0, 1, false);
        CHECKS.dueOutOfBounds("undo: user below", () -> wiki.undo(-1, 0, 0));
        CHECKS.dueOutOfBounds("undo: user above", () -> wiki.undo(4, 0, 0));
        CHECKS.dueOutOfBounds("undo: page below", () -> wiki.undo(0, -1, 0));
        CHECKS.dueOutOfBounds("undo: page above", () -> wiki.undo(0, 12, 0));
        CHECKS.dueOutOfBounds("undo: revision below", () -> wiki.undo(0, 0, -1));
        CHECKS.dueOutOfBounds("undo: revision above", () -> wiki.undo(0, 0, 1));
        CHECKS.dueOutOfBounds("undo: no revisions", () -> wiki.undo(0, 1, 0));
        CHECKS.dueBadState("undo: rights", () -> wiki.undo(0, 0, 0));
        wiki.rank(0, 1);
        CHECKS.due("undo with rights", wiki.undo(0, 0, 0), 1);
    }

    private static void moving() {
        Desk desk = new Desk();
        Wikiwright wiki = desk.wiki;
        desk.putBy(1, 'a', "one");
        desk.putBy(2, 'a', "two [b]");
        wiki.hide(EDITOR, 0, 0);
        CHECKS.due("move", wiki.move(0, 0, 3), 2);
        CHECKS.due("moved revisions", wiki.revisions(3), 2);
        CHECKS.due("moved text", desk.lastText('d'), "two [b]");
        CHECKS.due("moved author", wiki.author(3, 0), 1);
        CHECKS.due("last moved author", wiki.author(3, 1), 2);
        CHECKS.dueBadState("moved hiding", () -> wiki.text(0, 3, 0, 0));
        CHECKS.due("left revisions", wiki.revisions(0), 1);
        CHECKS.due("left text", desk.lastText('a'), ">d");
        CHECKS.due("left author", wiki.author(0, 0), 0);
        CHECKS.due("left text is told", wiki.text(0, 0, 0, 1), 'd');
        CHECKS.due("moved: shown", desk.shown('d'), "two b");
        CHECKS.due("moved: links", desk.links('d'), Desk.bits("b"));
        CHECKS.due("left: shown", desk.shown('a'), ">d");
        CHECKS.due("left: links", desk.links('a'), Desk.bits("d"));
        CHECKS.due("going on there", desk.put('d', "three"), 2);
        CHECKS.due("going on here", desk.put('a', "four"), 1);
        CHECKS.due("move once more", wiki.move(0, 0, 4), 2);
        CHECKS.due("the rows are apart", desk.lastText('d'), "three");
        CHECKS.due("what is left is not hidden", wiki.text(0, 0, 0, 0), '>');
    }

    private static void whatMovingQueues() {
        Desk desk = new Desk();
        Wikiwright wiki = desk.wiki;
        desk.put('a', "{l}{c}text");
        desk.put('f', "{a}");
        desk.put('c', "{d}");
        desk.put('k', ">a");
        desk.put('b', ">a");
        wiki.work(20);
        desk.put('a', "{a}{d}");
        wiki.work(20);
        CHECKS.due("nothing waits", wiki.waiting(), 0);
        wiki.move(0, 0, 3);
        CHECKS.due("all that stand on both, and redirects", wiki.waiting(), 6);
        CHECKS.due("the moved page finds the redirect already", desk.shown('d'), "!!");
        CHECKS.due("the moved page stands on both", desk.stands('d'), Desk.bits("ad"));
        wiki.work(2);
        CHECKS.due("first those that stand on the other page", desk.isFresh('c'), true);
        CHECKS.due("shown through the redirect", desk.shown('c'), "!!");
        wiki.work(2);
        CHECKS.due("redirects wait last", desk.lastText('b'), ">a");
        wiki.work(2);
        CHECKS.due("a moved link is followed", desk.lastText('b'), ">d");
        CHECKS.due("another is, too", desk.lastText('k'), ">d");
        CHECKS.due("by nobody", wiki.author(1, 1), Wikiwright.NONE);
    }

    private static void movingWrongly() {
        Desk desk = new Desk();
        Wikiwright wiki = desk.wiki;
        desk.put('a', "x");
        desk.put('b', "y");
        CHECKS.dueOutOfBounds("move: user below", () -> wiki.move(-1, 0, 2));
        CHECKS.dueOutOfBounds("move: user above", () -> wiki.move(4, 0, 2));
        CHECKS.dueOutOfBounds("move: page below", () -> wiki.move(0, -1, 2));
        CHECKS.dueOutOfBounds("move: page above", () -> wiki.move(0, 12, 2));
        CHECKS.dueOutOfBounds("move: other below", () -> wiki.move(0, 0, -1));
        CHECKS.dueOutOfBounds("move: other above", () -> wiki.move(0, 0, 12));
        CHECKS.dueBadState("move: nothing", () -> wiki.move(0, 2, 3));
        CHECKS.dueBadState("move: onto a text", () -> wiki.move(0, 0, 1));
        CHECKS.dueBadState("move: onto itself", () -> wiki.move(0, 0, 0));
        wiki.protect(0, 1, false);
        CHECKS.dueBadState("move: rights of the page", () -> wiki.move(0, 0, 2));
        wiki.protect(0, 0, false);
        wiki.protect(2, 1, false);
        CHECKS.dueBadState("move: rights of the other", () -> wiki.move(0, 0, 2));
        CHECKS.due("nothing moved", wiki.revisions(2), 0);
        wiki.rank(0, 1);
        CHECKS.due("move with rights", wiki.move(0, 0, 2), 1);
        CHECKS.due("protection stays", wiki.needs(2), 1);
    }

    private static void hiding() {
        Desk desk = new Desk();
        Wikiwright wiki = desk.wiki;
        desk.put('a', "x");
        CHECKS.dueBadState("hide: rank 0", () -> wiki.hide(0, 0, 0) ? 1 : 0);
        wiki.rank(0, 1);
        CHECKS.dueBadState("hide: rank 1", () -> wiki.hide(0, 0, 0) ? 1 : 0);
        CHECKS.due("hide", wiki.hide(EDITOR, 0, 0), true);
        CHECKS.dueBadState("hidden from rank 1", () -> wiki.text(0, 0, 0, 0));
        CHECKS.dueBadState("hidden at any place", () -> wiki.text(0, 0, 0, -5));
        CHECKS.due("told to rank 2", wiki.text(EDITOR, 0, 0, 0), 'x');
        CHECKS.due("it is shown all the same", desk.shown('a'), "x");
        CHECKS.due("show again", wiki.hide(EDITOR, 0, 0), false);
        CHECKS.due("told to rank 1", wiki.text(0, 0, 0, 0), 'x');
        CHECKS.dueOutOfBounds("hide: user below", () -> wiki.hide(-1, 0, 0) ? 1 : 0);
        CHECKS.dueOutOfBounds("hide: user above", () -> wiki.hide(4, 0, 0) ? 1 : 0);
        CHECKS.dueOutOfBounds("hide: page below", () -> wiki.hide(1, -1, 0) ? 1 : 0);
        CHECKS.dueOutOfBounds("hide: page above", () -> wiki.hide(1, 12, 0) ? 1 : 0);
        CHECKS.dueOutOfBounds("hide: revision below", () -> wiki.hide(1, 0, -1) ? 1 : 0);
        CHECKS.dueOutOfBounds("hide: revision above", () -> wiki.hide(1, 0, 1) ? 1 : 0);
    }

    private static void telling() {
        Desk desk = new Desk();
        Wikiwright wiki = desk.wiki;
        desk.putBy(2, 'l', "ab");
        CHECKS.due("revisions", wiki.revisions(11), 1);
        CHECKS.due("author", wiki.author(11, 0), 2);
        CHECKS.due("text: first", wiki.text(0, 11, 0, 0), 'a');
        CHECKS.due("text: last", wiki.text(0, 11, 0, 1), 'b');
        CHECKS.due("text: its length", wiki.text(0, 11, 0, 2), 2);
        CHECKS.due("text: beyond", wiki.text(0, 11, 0, 3), Wikiwright.NONE);
        CHECKS.due("text: far beyond", wiki.text(0, 11, 0, Integer.MAX_VALUE), Wikiwright.NONE);
        CHECKS.due("text: below", wiki.text(0, 11, 0, -1), Wikiwright.NONE);
        CHECKS.due("text: far below", wiki.text(0, 11, 0, Integer.MIN_VALUE), Wikiwright.NONE);
        CHECKS.dueOutOfBounds("revisions: page", () -> wiki.revisions(12));
        CHECKS.dueOutOfBounds("revisions: page below", () -> wiki.revisions(-1));
        CHECKS.dueOutOfBounds("author: page", () -> wiki.author(12, 0));
        CHECKS.dueOutOfBounds("author: page below", () -> wiki.author(-1, 0));
        CHECKS.dueOutOfBounds("author: revision", () -> wiki.author(11, 1));
        CHECKS.dueOutOfBounds("author: revision below", () -> wiki.author(11, -1));
        CHECKS.dueOutOfBounds("text: user", () -> wiki.text(4, 11, 0, 0));
        CHECKS.dueOutOfBounds("text: user below", () -> wiki.text(-1, 11, 0, 0));
        CHECKS.dueOutOfBounds("text: page", () -> wiki.text(0, 12, 0, 0));
        CHECKS.dueOutOfBounds("text: page below", () -> wiki.text(0, -1, 0, 0));
        CHECKS.dueOutOfBounds("text: revision", () -> wiki.text(0, 11, 1, 0));
        CHECKS.dueOutOfBounds("text: revision below", () -> wiki.text(0, 11, -1, 0));
    }

    private static void differing() {
        Desk desk = new Desk();
        Wikiwright wiki = desk.wiki;
        desk.put('a', "a;b;c");
        desk.put('a', "a;x;c;");
        desk.put('a', "");
        desk.put('a', ";b");
        CHECKS.due("differs from itself", wiki.differs(0, 0, 0), 0);
        CHECKS.due("a line and one more", wiki.differs(0, 0, 1), 2);
        CHECKS.due("the other way", wiki.differs(0, 1, 0), 2);
        CHECKS.due("from an empty one", wiki.differs(0, 0, 2), 3);
        CHECKS.due("one line is the same", wiki.differs(0, 0, 3), 2);
        CHECKS.due("an empty line is the same", wiki.differs(0, 2, 3), 1);
        CHECKS.dueOutOfBounds("differs: page", () -> wiki.differs(12, 0, 0));
        CHECKS.dueOutOfBounds("differs: page below", () -> wiki.differs(-1, 0, 0));
        CHECKS.dueOutOfBounds("differs: revision", () -> wiki.differs(0, 4, 0));
        CHECKS.dueOutOfBounds("differs: revision below", () -> wiki.differs(0, -1, 0));
        CHECKS.dueOutOfBounds("differs: other", () -> wiki.differs(0, 0, 4));
        CHECKS.dueOutOfBounds("differs: other below", () -> wiki.differs(0, 0, -1));
    }

    public static void main(String[] args) {
        saving();
        savingWrongly();
        merging();
        mergingIntoFaults();
        undoing();
        undoingWrongly();
        moving();
        whatMovingQueues();
        movingWrongly();
        hiding();
        telling();
        differing();
        CHECKS.finish();
    }
}
