/** Promises 1 to 4: a new object, and the tape with its faults. */
public final class TapeTest {

    private static final Checks CHECKS = new Checks("TapeTest");

    private static void fault(String text, int want) {
        CHECKS.due("fault of " + text, new Desk().fault(text), want);
    }

    private static void newObject() {
        Wikiwright wiki = new Wikiwright();
        for (int number = 0; number < 12; number++) {
            int page = number;
            CHECKS.due("new: revisions", wiki.revisions(page), 0);
            CHECKS.due("new: size", wiki.size(page), 0);
            CHECKS.due("new: links", wiki.links(page), 0);
            CHECKS.due("new: linked", wiki.linked(page), 0);
            CHECKS.due("new: labels", wiki.labels(page), 0);
            CHECKS.due("new: stands", wiki.stands(page), 0);
            CHECKS.due("new: needs", wiki.needs(page), 0);
            CHECKS.due("new: isFresh", wiki.isFresh(page), true);
            CHECKS.due("new: shownAnew", wiki.shownAnew(page, 0), Wikiwright.NONE);
        }
        for (int user = 0; user < 4; user++) {
            CHECKS.due("new: news", wiki.news(user), 0);
            CHECKS.due("new: rank", wiki.rank(user, 0), 0);
            CHECKS.due("new: watch", wiki.watch(user, 11, false), false);
        }
        CHECKS.due("new: waiting", wiki.waiting(), 0);
        CHECKS.due("new: tape", wiki.wipe(), 0);
        CHECKS.due("new: tick", wiki.pass(1), 1);
        CHECKS.due("NONE", Wikiwright.NONE, -1);
    }

    private static void typing() {
        Wikiwright wiki = new Wikiwright();
        CHECKS.due("type the first", wiki.type(' '), 1);
        CHECKS.due("type the last", wiki.type('~'), 2);
        CHECKS.dueBadArgument("type below", () -> wiki.type((char) 31));
        CHECKS.dueBadArgument("type above", () -> wiki.type((char) 127));
        CHECKS.dueBadArgument("type the greatest", () -> wiki.type('\uffff'));
        for (int had = 2; had < 60; had++) {
            CHECKS.due("type one more", wiki.type('x'), had + 1);
        }
        CHECKS.dueBadState("type on a full tape", () -> wiki.type('x'));
        CHECKS.dueBadArgument("type what is no sign on a full tape", () -> wiki.type((char) 0));
        CHECKS.due("wipe", wiki.wipe(), 60);
        CHECKS.due("wipe again", wiki.wipe(), 0);
        CHECKS.due("type on a wiped tape", wiki.type('y'), 1);
    }

    private static void plainFaults() {
        fault("", Wikiwright.NONE);
        fault("abcxyz 019.,;:-!/+*=", Wikiwright.NONE);
        for (char sign = 32; sign < 127; sign++) {
            boolean isPlain = sign >= 'a' && sign <= 'z' || sign >= '0' && sign <= '9'
                    || " .,;:-!/+*=".indexOf(sign) >= 0;
            boolean isOpener = "{[<('".indexOf(sign) >= 0;
            fault("a" + sign, isOpener ? 2 : isPlain ? Wikiwright.NONE : 1);
            fault("'" + sign + (sign == '\'' ? "" : "'"), Wikiwright.NONE);
        }
        fault("'a{[", 4);
        fault("'a'b'", 5);
        fault("|", 0);
        fault("a}", 1);
    }

    private static void redirectFaults() {
        fault(">", 1);
        fault(">a", Wikiwright.NONE);
        fault(">l", Wikiwright.NONE);
        fault(">m", 1);
        fault(">'", 1);
        fault(">a ", 2);
        fault(" >a", 1);
    }

    /** What stood on the tape before is no longer there. */
    private static void faultsOfAWipedTape() {
        Desk desk = new Desk();
        CHECKS.due("a redirect", desk.fault(">a"), Wikiwright.NONE);
        CHECKS.due("half of one", desk.fault(">"), 1);
        CHECKS.due("a label", desk.fault("[#a]"), Wikiwright.NONE);
        CHECKS.due("half of it", desk.fault("[#"), 2);
        CHECKS.due("a redirect saved", desk.put('b', ">a"), 0);
        desk.wiki.type('>');
        CHECKS.due("half of one behind a save", desk.wiki.fault(), 1);
        desk.wiki.wipe();
        CHECKS.due("nothing of it", desk.wiki.fault(), Wikiwright.NONE);
    }

    private static void bracketFaults() {
        fault("[a]", Wikiwright.NONE);
        fault("[l|x{b}]", Wikiwright.NONE);
        fault("[a|]", Wikiwright.NONE);
        fault("[m]", 1);
        fault("[", 1);
        fault("[a", 2);
        fault("[ax", 2);
        fault("[a|x|y]", 4);
        fault("[#z]", Wikiwright.NONE);
        fault("[#", 2);
        fault("[#A]", 2);
        fault("[#a", 3);
        fault("[#ab]", 3);
        fault("[#a|b]", 3);
        fault("<a>(b)<>()", Wikiwright.NONE);
        fault("<a)", 2);
        fault("(a>", 2);
        fault("<a|b>", 2);
        fault("(a", 2);
        fault("[a|x}", 4);
    }

    private static void callFaults() {
        fault("{a}{l|}{c|x||y|}", Wikiwright.NONE);
        fault("{", 1);
        fault("{m}", 1);
        fault("{ a}", 1);
        fault("{ab}", 2);
        fault("{a|b", 4);
        fault("{0}{9|}{5|x}", Wikiwright.NONE);
        fault("{10}", 2);
        fault("{1|a|b}", 4);
        fault("{?}", 2);
        fault("{?a|b}{?|}{?||}", Wikiwright.NONE);
        fault("{?a|b|c|d}", 7);
        fault("{=}", 2);
        fault("{=a|b}", 5);
        fault("{=a|b|c}{=a|b|c|d}{=||}", Wikiwright.NONE);
        fault("{=a|b|c|d|e}", 9);
        fault("{#}", 2);
        fault("{#a}", 3);
        fault("{#a|}{#|b=c|d|=||}", Wikiwright.NONE);
        fault("{+}{+1+2}", Wikiwright.NONE);
        fault("{+1|2}", 3);
        fault("{@}", Wikiwright.NONE);
        fault("{@|}", 2);
        fault("{@x}", 2);
        fault("{a]", 2);
        fault("{*}", 1);
    }

    private static void depthFaults() {
        fault("<<<<<<<<>>>>>>>>", Wikiwright.NONE);
        fault("<<<<<<<<<", 8);
        fault("(((((((({a}", 8);
        fault("{a|{b|{c|{d|{e|{f|{g|{h}}}}}}}}", Wikiwright.NONE);
        fault("{a|{b|{c|{d|{e|{f|{g|{h|[a]", 24);
        fault("[a|[b|[c|[d|[e|[f|[g|[#a]", 25);
        fault("[a|[b|[c|[d|[e|[f|[g|[h|[#a]", 24);
        fault("<<<<<<<<''>>>>>>>>", Wikiwright.NONE);
        fault("<><><><><><><><><>(((((((([", 26);
    }

    private static void faultsOfLongTapes() {
        Desk desk = new Desk();
        CHECKS.due("a full tape", desk.fault("x".repeat(60)), Wikiwright.NONE);
        CHECKS.due("a full tape that is too short", desk.fault("x".repeat(59) + "{"), 60);
        CHECKS.due("the tape stays", desk.wiki.wipe(), 60);
    }

    public static void main(String[] args) {
        newObject();
        typing();
        plainFaults();
        redirectFaults();
        faultsOfAWipedTape();
        bracketFaults();
        callFaults();
        depthFaults();
        faultsOfLongTapes();
        CHECKS.finish();
    }
}
