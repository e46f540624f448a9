/** Promises 25 to 29: ranks, protections that cascade, watch lists and news. */
public final class RightsTest {

    private static final Checks CHECKS = new Checks("RightsTest");

    private static void ranks() {
        Wikiwright wiki = new Wikiwright();
        CHECKS.due("the first rank", wiki.rank(0, 2), 0);
        CHECKS.due("the rank before", wiki.rank(0, 1), 2);
        CHECKS.due("the rank before that", wiki.rank(0, 0), 1);
        CHECKS.due("another's rank", wiki.rank(3, 1), 0);
        CHECKS.dueOutOfBounds("user below", () -> wiki.rank(-1, 0));
        CHECKS.dueOutOfBounds("user above", () -> wiki.rank(4, 0));
        CHECKS.dueOutOfBounds("user ahead of rank", () -> wiki.rank(4, 3));
        CHECKS.dueBadArgument("rank below", () -> wiki.rank(3, -1));
        CHECKS.dueBadArgument("rank above", () -> wiki.rank(3, 3));
        CHECKS.due("nothing changed", wiki.rank(3, 0), 1);
    }

    private static void protecting() {
        Desk desk = new Desk();
        Wikiwright wiki = desk.wiki;
        desk.put('a', "x");
        CHECKS.due("protect", wiki.protect(0, 1, false), 1);
        CHECKS.due("needs", wiki.needs(0), 1);
        CHECKS.dueBadState("rank 0", () -> desk.putBy(0, 'a', "y"));
        wiki.rank(0, 1);
        CHECKS.due("rank 1", desk.putBy(0, 'a', "y"), 1);
        CHECKS.due("protect more", wiki.protect(0, 2, false), 2);
        CHECKS.dueBadState("rank 1 on 2", () -> desk.putBy(0, 'a', "z"));
        CHECKS.due("rank 2", desk.put('a', "z"), 2);
        CHECKS.due("free it", wiki.protect(0, 0, false), 0);
        CHECKS.due("rank 0 again", desk.putBy(1, 'a', "w"), 3);
        CHECKS.dueOutOfBounds("page below", () -> wiki.protect(-1, 0, true));
        CHECKS.dueOutOfBounds("page above", () -> wiki.protect(12, 3, true));
        CHECKS.dueBadArgument("protection below", () -> wiki.protect(0, -1, true));
        CHECKS.dueBadArgument("protection above", () -> wiki.protect(0, 3, true));
        CHECKS.dueOutOfBounds("needs: page below", () -> wiki.needs(-1));
        CHECKS.dueOutOfBounds("needs: page above", () -> wiki.needs(12));
    }

    private static void cascading() {
        Desk desk = new Desk();
        Wikiwright wiki = desk.wiki;
        desk.put('a', "{b}");
        desk.put('b', "{c}");
        wiki.protect(0, 1, false);
        CHECKS.due("it does not cascade", wiki.needs(1), 0);
        CHECKS.due("it cascades", wiki.protect(0, 1, true), 1);
        CHECKS.due("needs by what it stands on", wiki.needs(1), 1);
        CHECKS.due("by what is kept", wiki.needs(2), 0);
        CHECKS.dueBadState("rank 0", () -> desk.putBy(0, 'b', "x"));
        wiki.work(20);
        CHECKS.due("by what is kept then", wiki.needs(2), 1);
        CHECKS.due("its own is greater", wiki.protect(2, 2, false), 2);
        CHECKS.due("its own is less", wiki.protect(1, 0, false), 1);
        wiki.protect(1, 2, true);
        CHECKS.due("the greatest of all", wiki.protect(2, 0, true), 2);
        CHECKS.due("not the other way", wiki.needs(0), 1);
        desk.put('a', "[b]");
        CHECKS.due("a link is no stand", wiki.needs(1), 2);
        wiki.protect(1, 0, false);
        CHECKS.due("all is free", wiki.needs(1), 0);
        wiki.protect(3, 2, true);
        CHECKS.due("a page without a text cascades to none", wiki.needs(2), 0);
    }

    private static void watching() {
        Wikiwright wiki = new Wikiwright();
        CHECKS.due("not yet", wiki.watch(0, 0, true), false);
        CHECKS.due("already", wiki.watch(0, 0, true), true);
        CHECKS.due("not another page", wiki.watch(0, 1, false), false);
        CHECKS.due("not another user", wiki.watch(1, 0, false), false);
        CHECKS.due("no longer", wiki.watch(0, 0, false), true);
        CHECKS.due("not since", wiki.watch(0, 0, false), false);
        CHECKS.due("the last ones", wiki.watch(3, 11, true), false);
        CHECKS.due("the last ones do", wiki.watch(3, 11, false), true);
        CHECKS.dueOutOfBounds("user below", () -> wiki.watch(-1, 0, true) ? 1 : 0);
        CHECKS.dueOutOfBounds("user above", () -> wiki.watch(4, 0, true) ? 1 : 0);
        CHECKS.dueOutOfBounds("page below", () -> wiki.watch(0, -1, true) ? 1 : 0);
        CHECKS.dueOutOfBounds("page above", () -> wiki.watch(0, 12, true) ? 1 : 0);
        CHECKS.dueOutOfBounds("news: user below", () -> wiki.news(-1));
        CHECKS.dueOutOfBounds("news: user above", () -> wiki.news(4));
    }

    private static void news() {
        Desk desk = new Desk();
        Wikiwright wiki = desk.wiki;
        wiki.watch(0, 0, true);
        wiki.watch(1, 0, true);
        desk.putBy(0, 'a', "x");
        desk.putBy(2, 'a', "y");
        desk.putBy(2, 'b', "y");
        CHECKS.due("news of others", wiki.news(0), 1);
        CHECKS.due("news of both", wiki.news(1), 2);
        CHECKS.due("none of a page that is not watched", wiki.news(2), 0);
        CHECKS.due("none since", wiki.news(1), 0);
        wiki.undo(2, 0, 1);
        wiki.watch(1, 0, false);
        wiki.undo(2, 0, 2);
        CHECKS.due("news of undoing", wiki.news(0), 2);
        CHECKS.due("only while watched", wiki.news(1), 1);
    }

    private static void newsOfMoving() {
        Desk desk = new Desk();
        Wikiwright wiki = desk.wiki;
        desk.put('a', "x");
        desk.put('a', "y");
        desk.put('c', ">a");
        wiki.watch(0, 0, true);
        wiki.watch(1, 0, true);
        wiki.watch(1, 1, true);
        wiki.watch(2, 0, true);
        wiki.watch(3, 2, true);
        wiki.move(2, 0, 1);
        CHECKS.due("moving counts", wiki.news(0), 1);
        CHECKS.due("for both pages", wiki.news(1), 2);
        CHECKS.due("not for who moves", wiki.news(2), 0);
        CHECKS.due("not yet", wiki.news(3), 0);
        wiki.work(1);
        CHECKS.due("what nobody made", wiki.news(3), 1);
        wiki.work(20);
        CHECKS.due("nothing more", wiki.news(3), 0);
    }

    public static void main(String[] args) {
        ranks();
        protecting();
        cascading();
        watching();
        news();
        newsOfMoving();
        CHECKS.finish();
    }
}
