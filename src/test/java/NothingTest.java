/** What the document says of nothing: no text, an empty one, no argument, no case, and so on. */
public final class NothingTest {

    private static final Checks CHECKS = new Checks("NothingTest");
    private static final int NONE = Wikiwright.NONE;
    private static final int EDITOR = Desk.EDITOR;

    /** Each of the texts is a letter of a page and its text. */
    private static Desk wikiOf(String... texts) {
        Desk desk = new Desk();
        for (String text : texts) {
            desk.put(text.charAt(0), text.substring(1));
        }
        return desk;
    }

    private static void shows(Desk desk, String text, String want) {
        CHECKS.due(text, desk.shows('a', text), want);
    }

    private static void noText() {
        Wikiwright wiki = wikiOf("ax").wiki;
        for (int number = 1; number < 12; number++) {
            int page = number;
            CHECKS.due("no text: revisions", wiki.revisions(page), 0);
            CHECKS.due("no text: size", wiki.size(page), 0);
            CHECKS.due("no text: anew", wiki.shownAnew(page, 0), NONE);
            CHECKS.due("no text: fresh", wiki.isFresh(page), true);
            CHECKS.due("no text: stands", wiki.stands(page), 0);
            CHECKS.due("no text: links", wiki.links(page), 0);
            CHECKS.due("no text: labels", wiki.labels(page), 0);
            CHECKS.dueOutOfBounds("no text: shown", () -> wiki.shown(page, 0));
            CHECKS.dueOutOfBounds("no text: author", () -> wiki.author(page, 0));
            CHECKS.dueOutOfBounds("no text: author of NONE", () -> wiki.author(page, NONE));
            CHECKS.dueOutOfBounds("no text: text", () -> wiki.text(EDITOR, page, 0, 0));
            CHECKS.dueOutOfBounds("no text: text of NONE", () -> wiki.text(EDITOR, page, NONE, 0));
            CHECKS.dueOutOfBounds("no text: differs", () -> wiki.differs(page, 0, 0));
            CHECKS.dueOutOfBounds("no text: differs of NONE", () -> wiki.differs(page, NONE, NONE));
            CHECKS.dueOutOfBounds("no text: undo", () -> wiki.undo(EDITOR, page, 0));
            CHECKS.dueOutOfBounds("no text: undo of NONE", () -> wiki.undo(EDITOR, page, NONE));
            CHECKS.dueOutOfBounds("no text: hide", () -> wiki.hide(EDITOR, page, 0) ? 1 : 0);
            CHECKS.dueOutOfBounds("no text: hide of NONE", () -> wiki.hide(2, page, NONE) ? 1 : 0);
            CHECKS.dueBadState("no text: move", () -> wiki.move(EDITOR, page, (page + 1) % 12));
            CHECKS.dueBadState("no text: move to itself", () -> wiki.move(EDITOR, page, page));
            CHECKS.dueOutOfBounds("no text: a base", () -> wiki.save(EDITOR, page, 0));
        }
        CHECKS.due("page 1 is called: its letter", wiki.save(EDITOR, 1, NONE), 0);
    }

    private static void callsOfNoText() {
        Desk desk = wikiOf("c>d", "e>c", "f>g", "gx");
        shows(desk, "{b}{b|x}{b|}", "bbb");
        CHECKS.due("stands on no text", desk.stands('a'), Desk.bits("b"));
        shows(desk, "{c}{c|x}", "cc");
        CHECKS.due("stands where a redirect leads", desk.stands('a'), Desk.bits("cd"));
        shows(desk, "{e}", "e");
        CHECKS.due("stands on a redirect behind one", desk.stands('a'), Desk.bits("ec"));
        shows(desk, "{f}", "x");
        shows(desk, "{?{b}|y|n}{=b|{b}|y|n}{#{b}|b=y}{+{b}}", "yyy!");
        CHECKS.due("no page links by calls", desk.links('a'), 0);
        desk.put('b', "{0}");
        CHECKS.due("its text comes: not yet shown", desk.isFresh('a'), false);
        CHECKS.due("what stands on it waits", desk.wiki.waiting(), 1);
        desk.wiki.work(1);
        CHECKS.due("its text is shown", desk.shown('a'), "nn!");
    }

    private static void aLetterWhateverIsOpen() {
        Desk desk = wikiOf("b1{c}", "c2{d}", "d3{e}", "e4{f}", "f5{g}{h}", "h>g");
        shows(desk, "{b}", "12345gh");
        shows(desk, "{i}".repeat(20), "i".repeat(20));
        desk.put('j', "{k}{k}{k}{k}");
        desk.put('k', "");
        shows(desk, "{j}".repeat(12) + "{i}{h}{k}", "ih!");
    }

    private static void anEmptyText() {
        Desk desk = new Desk();
        Wikiwright wiki = desk.wiki;
        CHECKS.due("an empty tape has no fault", wiki.fault(), NONE);
        CHECKS.due("an empty tape is saved", wiki.save(0, 1, NONE), 0);
        CHECKS.due("the length of an empty text", wiki.text(0, 1, 0, 0), 0);
        CHECKS.due("beyond an empty text", wiki.text(0, 1, 0, 1), NONE);
        CHECKS.due("below an empty text", wiki.text(0, 1, 0, -1), NONE);
        CHECKS.due("an empty text: size", wiki.size(1), 0);
        CHECKS.due("an empty text: anew", wiki.shownAnew(1, 0), NONE);
        CHECKS.dueOutOfBounds("an empty text: shown", () -> wiki.shown(1, 0));
        CHECKS.due("an empty text: fresh", desk.isFresh('b'), true);
        CHECKS.due("an empty text: author", wiki.author(1, 0), 0);
        CHECKS.due("an empty text: differs", wiki.differs(1, 0, 0), 0);
        shows(desk, "-{b}-{b|x}-", "---");
        desk.put('c', ">b");
        shows(desk, "-{c}-", "--");
        CHECKS.due("stands on both", desk.stands('a'), Desk.bits("bc"));
        CHECKS.due("an empty text is moved", wiki.move(0, 1, 3), 1);
        CHECKS.due("moved", wiki.revisions(3), 1);
        CHECKS.due("its length there", wiki.text(0, 3, 0, 0), 0);
        CHECKS.due("its place", desk.lastText('b'), ">d");
    }

    private static void mergingWithEmptyTexts() {
        Desk desk = wikiOf("a", "ax");
        CHECKS.dueBadState("one line, both are others", () -> desk.putOn('a', 0, "y"));
        CHECKS.dueBadState("two lines of none", () -> desk.putOn('a', 0, ";"));
        CHECKS.due("both are the same", desk.putOn('a', 0, "x"), 2);
        CHECKS.due("as the base: the last one", desk.putOn('a', 0, ""), 3);
        CHECKS.due("the last one stays", desk.lastText('a'), "x");
        CHECKS.due("on the last one", desk.putOn('a', 3, ""), 4);
        CHECKS.due("emptied", desk.lastText('a'), "");
        CHECKS.due("the last one is as the base", desk.putOn('a', 0, ";"), 5);
        CHECKS.due("two empty lines", desk.lastText('a'), ";");
        CHECKS.due("empty lines are lines", desk.putOn('a', 5, "y;"), 6);
        CHECKS.due("the other one, too", desk.putOn('a', 5, ";z"), 7);
        CHECKS.due("merged", desk.lastText('a'), "y;z");
        CHECKS.due("a line is emptied", desk.putOn('a', 6, ";"), 8);
        CHECKS.due("both changed", desk.lastText('a'), ";z");
    }

    private static void undoingToNothing() {
        Desk desk = wikiOf("ax", "ay;y");
        CHECKS.dueBadState("the first one, of other lines", () -> desk.wiki.undo(0, 0, 0));
        desk.put('a', "x");
        CHECKS.due("the first one", desk.wiki.undo(0, 0, 0), 3);
        CHECKS.due("an empty one is ahead of it", desk.lastText('a'), "");
        CHECKS.due("what is empty then is a text", desk.shows('b', "-{a}-"), "--");
        CHECKS.due("the first one, once more", desk.wiki.undo(0, 0, 0), 4);
        CHECKS.due("both are the same", desk.lastText('a'), "");
        CHECKS.due("undo the undoing", desk.wiki.undo(0, 0, 3), 5);
        CHECKS.due("undone", desk.lastText('a'), "x");
        Desk empty = wikiOf("a", "ax");
        CHECKS.due("undo an empty first one", empty.wiki.undo(0, 0, 0), 2);
        CHECKS.due("the last one stays", empty.lastText('a'), "x");
    }

    private static void linesOfNothing() {
        Desk desk = wikiOf("a", "a;", "ax", "a;x", "ax;;");
        Wikiwright wiki = desk.wiki;
        CHECKS.due("no line and an empty one more", wiki.differs(0, 0, 1), 1);
        CHECKS.due("an empty line and another", wiki.differs(0, 0, 2), 1);
        CHECKS.due("the first line is the same", wiki.differs(0, 0, 3), 1);
        CHECKS.due("the second line is not", wiki.differs(0, 1, 3), 1);
        CHECKS.due("two are the same in no line", wiki.differs(0, 2, 3), 2);
        CHECKS.due("only one has them", wiki.differs(0, 2, 4), 2);
        CHECKS.due("three lines and one", wiki.differs(0, 4, 0), 3);
        CHECKS.due("three lines and two", wiki.differs(0, 4, 1), 2);
    }

    private static void noArgument() {
        Desk desk = wikiOf("b-{0}-{1|n}-{2|}-{9}-");
        shows(desk, "{b}", "--n---");
        shows(desk, "{b|}", "--n---");
        shows(desk, "{b||}", "-----");
        shows(desk, "{b|x}", "-x-n---");
        shows(desk, "{b|||}", "-----");
        shows(desk, "{b| | }", "- - ---");
        shows(desk, "-{0}-{0|}-{9|n}-", "---n-");
        shows(desk, "{b|{0}}", "--n---");
        shows(desk, "{b|{0|y}}", "-y-n---");
        desk = wikiOf("b-{0}-{1|n}-{2|}-{9}-", "c{b|{0}|{1}}");
        shows(desk, "{c}", "-----");
        shows(desk, "{c|x|y}", "-x-y---");
        desk.put('b', "{9|n}");
        shows(desk, "{b|||||||||}", "n");
        shows(desk, "{b||||||||||}", "");
        shows(desk, "{b|0|1|2|3|4|5|6|7|8|9}", "9");
        shows(desk, "{b|0|1|2|3|4|5|6|7|8|9|10}", "9");
    }

    private static void choicesOfNothing() {
        Desk desk = wikiOf("b", "c  ");
        shows(desk, "{?|y}{?|y|}{? |y|n}{?{b}|y|n}{?{c}|y|n}{?<x>|y|n}", "nnnn");
        shows(desk, "{?x|}{?x||n}{?x|y}{?''|y|n}{?[#a]|y|n}{?{0}|y|n}", "ynnn");
        shows(desk, "{=||y}{=| |y|n}{={b}|{c}|y|n}{=x||y}{=x||y|}{=||}", "yyy");
        shows(desk, "{=|x|y|n}{=''|[#b]|y|n}{=||y|n}", "nyy");
        shows(desk, "{#|}{#||}{#x|}{#|x}{#|x|}", "x");
        shows(desk, "{#|=y}{# |x=n|=y}{#x|=n}{#{b}|{c}=y}", "yyy");
        shows(desk, "{#x|=n|y}{#x|=n|y=}{#x|y|}{#x|x=}{#x|x=|y}", "y");
        shows(desk, "{#x|x}{#x|x|y}{#x|x||=z}{#x|y=n|x}", "z");
        shows(desk, "{+}{+ }{+{b}}{+{c}}{+''}", "!!!!!");
    }

    /** What is not taken of a choice has nothing to show, and is not expanded. */
    private static void whatIsNotTaken() {
        Desk desk = wikiOf();
        shows(desk, "{?|[b]}{?x||[c]}{=|x|[d]}{=|||[e]}{#x|y=[f]}{#x|x|[g]}", "");
        CHECKS.due("nothing of it links", desk.links('a'), 0);
        shows(desk, "{#x|[b]=n|x|[c]|[d]=[e]|[f]=n}", "e");
        CHECKS.due("keys ahead and the value link", desk.links('a'), Desk.bits("be"));
        shows(desk, "{#x|[b]|[c]}", "c");
        CHECKS.due("all keys, and the last one again", desk.links('a'), Desk.bits("bc"));
    }

    private static void emptyPieces() {
        Desk desk = new Desk();
        for (String text : new String[] {"<>", "()", "''", "[a|]", "{a|}", "{0|}", "{?|}", "{=||}",
            "{#|}", "{+}", "(<>)", "{?||}", "{=|||}", "{#||||}", "{a||||}"}) {
            CHECKS.due(text + " has no fault", desk.fault(text), NONE);
        }
        shows(desk, "-<>-()-''-[b|]-[#c]-", "------");
        CHECKS.due("an empty link links", desk.links('a'), Desk.bits("b"));
        CHECKS.due("a label is one", desk.labels('a'), 4);
    }

    private static void anEmptyTape() {
        Wikiwright wiki = wikiOf("ax").wiki;
        CHECKS.due("nothing to wipe", wiki.wipe(), 0);
        CHECKS.due("no fault of nothing", wiki.fault(), NONE);
        CHECKS.dueBadState("nothing to search", () -> wiki.search());
        wiki.type('x');
        CHECKS.due("something to search", wiki.search(), 1);
        CHECKS.due("something to wipe", wiki.wipe(), 1);
        CHECKS.dueBadState("nothing again", () -> wiki.search());
        wiki.type('x');
        wiki.save(0, 0, 0);
        CHECKS.dueBadState("nothing behind saving", () -> wiki.search());
        CHECKS.due("saving nothing", wiki.save(0, 0, 1), 2);
        CHECKS.due("saved", wiki.text(0, 0, 2, 0), 0);
    }

    private static void anEmptyQueue() {
        Desk desk = new Desk();
        Wikiwright wiki = desk.wiki;
        CHECKS.due("none waits", wiki.waiting(), 0);
        CHECKS.due("no job", wiki.work(1), 0);
        CHECKS.due("no job of twenty", wiki.work(20), 0);
        CHECKS.due("a tick for none", wiki.pass(1), 1);
        CHECKS.due("none waits by it", wiki.waiting(), 0);
        desk.put('a', "{b}{@}");
        CHECKS.due("saving brings in none that stand not on it", wiki.waiting(), 0);
        wiki.pass(1);
        CHECKS.due("one job of twenty", wiki.work(20), 1);
        CHECKS.due("empty again", wiki.work(20), 0);
        CHECKS.due("none waits again", wiki.waiting(), 0);
    }

    private static void noNews() {
        Desk desk = new Desk();
        Wikiwright wiki = desk.wiki;
        CHECKS.due("no news", wiki.news(0), 0);
        wiki.watch(0, 0, true);
        CHECKS.due("no news of what is watched", wiki.news(0), 0);
        desk.putBy(0, 'a', "x");
        CHECKS.due("no news of one's own", wiki.news(0), 0);
        desk.putBy(1, 'a', "");
        CHECKS.due("news of an empty text", wiki.news(0), 1);
        CHECKS.due("none are left", wiki.news(0), 0);
        wiki.watch(0, 0, false);
        desk.putBy(1, 'a', "y");
        CHECKS.due("none of what is not watched", wiki.news(0), 0);
    }

    private static void noProtection() {
        Desk desk = wikiOf("a{b}");
        Wikiwright wiki = desk.wiki;
        CHECKS.due("cascading nothing", wiki.protect(0, 0, true), 0);
        CHECKS.due("needs nothing", wiki.needs(1), 0);
        CHECKS.due("a page without a text is protected", wiki.protect(2, 1, true), 1);
        CHECKS.dueBadState("it has no text by rank 0", () -> wiki.save(0, 2, NONE));
        CHECKS.dueBadState("nothing is moved there by rank 0", () -> wiki.move(0, 0, 2));
        wiki.rank(0, 1);
        CHECKS.due("but by rank 1", wiki.save(0, 2, NONE), 0);
    }

    public static void main(String[] args) {
        noText();
        callsOfNoText();
        aLetterWhateverIsOpen();
        anEmptyText();
        mergingWithEmptyTexts();
        undoingToNothing();
        linesOfNothing();
        noArgument();
        choicesOfNothing();
        whatIsNotTaken();
        emptyPieces();
        anEmptyTape();
        anEmptyQueue();
        noNews();
        noProtection();
        CHECKS.finish();
    }
}
