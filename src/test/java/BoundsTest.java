/** The sentences of Terms that name a bound: each at the bound and on either side of it. */
public final class BoundsTest {

    private static final Checks CHECKS = new Checks("BoundsTest");
    private static final int EDITOR = Desk.EDITOR;

    private static String x(int count) {
        return "x".repeat(count);
    }

    /** Each of the texts is a letter of a page and its text. */
    private static Desk wikiOf(String... texts) {
        Desk desk = new Desk();
        for (String text : texts) {
            desk.put(text.charAt(0), text.substring(1));
        }
        return desk;
    }

    private static void shows(Desk desk, String text, String want) {
        CHECKS.due(text, desk.shows('a', text), want);
    }

    // ---- a text has at most 60 characters

    private static void sixtySignsOfATape() {
        Desk desk = new Desk();
        for (int had = 0; had < 60; had++) {
            CHECKS.due("type behind " + had, desk.wiki.type('x'), had + 1);
        }
        CHECKS.dueBadState("the 61st sign", () -> desk.wiki.type('x'));
        CHECKS.due("60 are no fault", desk.wiki.fault(), Wikiwright.NONE);
        CHECKS.due("60 are saved", desk.wiki.save(0, 0, Wikiwright.NONE), 0);
        CHECKS.due("60 are told", desk.text('a', 0), x(60));
        CHECKS.due("60 are shown", desk.shown('a'), x(60));
        CHECKS.due("behind the last of 60", desk.wiki.text(0, 0, 0, 60), 60);
        CHECKS.due("beyond 60", desk.wiki.text(0, 0, 0, 61), Wikiwright.NONE);
    }

    private static void sixtySignsSearched() {
        Desk desk = wikiOf("b" + x(60), "c" + x(59), "d{b}y", "ly" + x(59));
        desk.tape(x(60));
        CHECKS.due("60 signs are found", desk.wiki.search(), Desk.bits("bd"));
        desk.tape(x(59));
        CHECKS.due("59 signs are found", desk.wiki.search(), Desk.bits("bcdl"));
        desk.tape(x(59) + "y");
        CHECKS.due("found at the end", desk.wiki.search(), Desk.bits("d"));
        desk.tape("y" + x(59));
        CHECKS.due("found at the start", desk.wiki.search(), Desk.bits("l"));
    }

    private static void sixtySignsOfAMerge() {
        for (int length = 59; length <= 61; length++) {
            Desk desk = wikiOf("aa;b", "a" + x(30) + ";b");
            String typed = "a;" + x(length - 31);
            if (length > 60) {
                CHECKS.dueBadState("merged to " + length, () -> desk.putOn('a', 0, typed));
                CHECKS.due("the tape stays", desk.wiki.wipe(), typed.length());
                CHECKS.due("no revision of " + length, desk.wiki.revisions(0), 2);
            } else {
                CHECKS.due("merged to " + length, desk.putOn('a', 0, typed), 2);
                CHECKS.due("its length", desk.text('a', 2).length(), length);
            }
        }
    }

    private static void sixtySignsOfAnUndo() {
        for (int length = 59; length <= 61; length++) {
            Desk desk = wikiOf("a" + x(30) + ";b", "aa;b", "aa;" + x(length - 31));
            if (length > 60) {
                CHECKS.dueBadState("undone to " + length, () -> desk.wiki.undo(0, 0, 1));
                CHECKS.due("no undoing to " + length, desk.wiki.revisions(0), 3);
            } else {
                CHECKS.due("undone to " + length, desk.wiki.undo(0, 0, 1), 3);
                CHECKS.due("its length", desk.text('a', 3).length(), length);
            }
        }
    }

    // ---- up to 8 deep, the ninth is a fault at its first character

    private static void eightOpenOfAKind(String opener, String inside, String closer) {
        Desk desk = new Desk();
        for (int deep = 7; deep <= 8; deep++) {
            String text = opener.repeat(deep) + inside + closer.repeat(deep);
            CHECKS.due(text, desk.fault(text), Wikiwright.NONE);
        }
        String ninth = opener.repeat(8);
        for (String begun : new String[] {"{", "[", "<", "("}) {
            CHECKS.due(ninth + begun, desk.fault(ninth + begun), ninth.length());
            String seventh = opener.repeat(7) + begun;
            CHECKS.due(seventh + " may go on", desk.fault(seventh), seventh.length());
        }
        CHECKS.due("kept in " + ninth, desk.fault(ninth + "'{[<('"), ninth.length() + 6);
        CHECKS.due("plain in " + ninth, desk.fault(ninth + "x"), ninth.length() + 1);
    }

    private static void eightOpen() {
        eightOpenOfAKind("{a|", "x", "}");
        eightOpenOfAKind("{0|", "x", "}");
        eightOpenOfAKind("{?", "x", "|x}");
        eightOpenOfAKind("{+", "1", "}");
        eightOpenOfAKind("[a|", "x", "]");
        eightOpenOfAKind("<", "x", ">");
        eightOpenOfAKind("(", "x", ")");
        eightOpenOfAKind("{=", "", "||}");
        eightOpenOfAKind("{#", "", "|}");
        eightOpenOfAKind("{?x|", "x", "}");
        eightOpenOfAKind("{#|=", "x", "}");
    }

    private static void theNinthIsAWholePiece() {
        Desk desk = new Desk();
        String[] pieces = {"{a}", "{0}", "{@}", "[a]", "[#a]", "<x>", "(x)"};
        for (String piece : pieces) {
            String eighth = "(((((((" + piece + ")))))))";
            CHECKS.due("eighth: " + piece, desk.fault(eighth), Wikiwright.NONE);
            String ninth = "((((((((" + piece + "))))))))";
            CHECKS.due("ninth: " + piece, desk.fault(ninth), 8);
        }
        CHECKS.due("mixed", desk.fault("<([a|{b|{0|{?{={+1}||}|x}}}])>"), Wikiwright.NONE);
        CHECKS.due("mixed, a ninth", desk.fault("<([a|{b|{0|{?{={+{"), 17);
        CHECKS.due("closed ones are not open", desk.fault("(((((((()()()()"), 15);
        CHECKS.due("two of eight are closed", desk.fault("(((((((())(("), 12);
        CHECKS.due("and three more begun", desk.fault("(((((((())((("), 12);
        CHECKS.due("eight deep is shown", desk.shows('a', "((((((((x))))))))"), "x");
        CHECKS.due("eight calls deep are shown",
                desk.shows('a', "{0|{0|{0|{0|{0|{0|{0|{0|x}}}}}}}}"), "x");
    }

    /** Six texts that are eight deep each, one in another. */
    private static void eightDeepInFiveCalls() {
        String begun = "<<<<<<<";
        String ended = ">>>>>>>";
        Desk desk = new Desk();
        for (char letter = 'b'; letter <= 'e'; letter++) {
            desk.put(letter, begun + letter + "{" + (char) (letter + 1) + "}" + ended);
        }
        desk.put('f', begun + "f<x'{'>" + ended);
        shows(desk, "((((((({b})))))))", "bcdefx{");
        desk.put('f', begun + "f{g}{h}" + ended);
        desk.put('g', "y");
        shows(desk, "((((((({b})))))))", "bcdef!h");
    }

    private static void theNinthOfAMerge() {
        Desk desk = wikiOf("a((((;x;))))", "a((((((;x;))))))");
        CHECKS.due("eight by merging", desk.putOn('a', 0, "((((;((x));))))"), 2);
        CHECKS.due("merged", desk.lastText('a'), "((((((;((x));))))))");
        CHECKS.dueBadState("nine by merging", () -> desk.putOn('a', 0, "((((;(((x)));))))"));
        CHECKS.due("no third", desk.wiki.revisions(0), 3);
    }

    // ---- 5 calls of pages are open

    private static void fiveCallsOpen() {
        Desk desk = wikiOf("b1{c}", "c2{d}", "d3{e}", "e4{f}", "f5");
        shows(desk, "{b}", "12345");
        desk.put('f', "5{g}");
        shows(desk, "{b}", "12345g");
        desk.put('g', "6");
        shows(desk, "{b}", "12345!");
        shows(desk, "{c}", "23456");
        shows(desk, "{c}{b}{d}", "2345612345!3456");
        desk.put('g', "");
        shows(desk, "{b}", "12345!");
        shows(desk, "{c}", "2345");
        desk.put('h', ">g");
        desk.put('f', "5{h}");
        shows(desk, "{b}", "12345!");
        CHECKS.due("it stands on what was found", desk.stands('a'), Desk.bits("bcdefgh"));
        desk.put('h', ">i");
        shows(desk, "{b}", "12345h");
    }

    private static void argumentsOfOpenCalls() {
        Desk desk = wikiOf("b{c|{0}}", "c{d|{0}}", "d{e|{0}}", "e{f|{0}}", "f{0}", "g7");
        shows(desk, "{b|{g}}", "7");
        desk.put('f', "{g}");
        shows(desk, "{b|x}", "!");
        shows(desk, "{b|{b|{b|{b|{b|{b|{b|x}}}}}}}", "!");
        desk.put('f', "{0}");
        shows(desk, "{b|{b|{b|{b|{b|{b|{b|x}}}}}}}", "x");
        desk.put('e', "{f|{g}}");
        shows(desk, "{b}", "7");
        desk.put('e', "{f|{g}}{f}");
        desk.put('f', "{0|{g}}");
        shows(desk, "{b}", "7!");
    }

    private static void thoseBeingExpanded() {
        Desk desk = wikiOf("bx{c}", "cy{b}", "dz{a}", "e>a", "f>b");
        shows(desk, "{b}", "xy!");
        shows(desk, "{c}", "yx!");
        shows(desk, "{d}", "z!");
        shows(desk, "{a}{e}", "!!");
        shows(desk, "{b}{b}", "xy!xy!");
        desk.put('c', "y{f}");
        shows(desk, "{b}", "xy!");
        desk.put('b', "{0}");
        shows(desk, "{b|{b|x}}", "x");
    }

    // ---- 60 calls have shown a text

    /** A wiki in which a call of b is five calls that show a text, and c, d and e are one. */
    private static Desk wikiOfCalls() {
        return wikiOf("b{c}{c}{c}{c}", "cy", "d", "ez", "f>e", "g>l", "h>f");
    }

    private static void sixtyCalls() {
        Desk desk = wikiOfCalls();
        String fiftyFive = "{b}".repeat(11);
        String shown = "y".repeat(44);
        shows(desk, fiftyFive + "{c}{c}{c}{c}", shown + "yyyy");
        shows(desk, fiftyFive + "{c}{c}{c}{c}{c}", shown + "yyyyy");
        shows(desk, fiftyFive + "{c}{c}{c}{c}{c}{c}", shown + "yyyyy!");
        shows(desk, fiftyFive + "{b}", shown + "yyyy");
        shows(desk, fiftyFive + "{b}{e}", shown + "yyyy!");
        shows(desk, fiftyFive + "{c}{b}", shown + "yyyy!");
    }

    private static void whatIsNoCallOfSixty() {
        Desk desk = wikiOfCalls();
        String fiftyFive = "{b}".repeat(11);
        String shown = "y".repeat(44);
        shows(desk, "{l}{a}{g}{h}{k}" + "{b}".repeat(11) + "{b}{e}", "l!ghk" + shown + "yyyy!");
        shows(desk, fiftyFive + "{b}{l}{g}{e}{a}", shown + "yyyylg!!");
        shows(desk, fiftyFive + "{d}{d}{d}{d}{e}{e}", shown + "z!");
        shows(desk, fiftyFive + "{f}{f}{f}{f}{f}{f}", shown + "zzzzz!");
        CHECKS.due("each expansion begins anew", desk.shownAnew('a'), shown + "zzzzz!");
        desk.put('k', "{b}{e}");
        CHECKS.due("another page's, too", desk.shown('k'), "yyyyz");
    }

    private static void sixtyCallsAlsoOutOfSight() {
        Desk desk = wikiOfCalls();
        desk.put('i', "{b}".repeat(12));
        shows(desk, "{?{b}|{e}}", "z");
        shows(desk, "{?" + "{b}".repeat(12) + "|{e}}", "!");
        shows(desk, "{k|" + "{b}".repeat(12) + "}{e}", "k!");
        shows(desk, "{#|" + "{b}".repeat(11) + "{c}{c}{c}|{e}=|{e}}", "!");
        shows(desk, "{#|" + "{b}".repeat(11) + "{c}{c}|{e}=|{e}}", "z");
        shows(desk, "{+" + "{b}".repeat(12) + "}{e}", "!!");
        shows(desk, "{?|" + "{b}".repeat(12) + "}<{i}>{e}", "z");
        shows(desk, "{i}", "y".repeat(44) + "yyy!");
    }

    // ---- 1000 characters are put

    /** A wiki in which each c is 240 signs put, and b and d are 60. */
    private static Desk wikiOfSigns() {
        return wikiOf("b" + x(60), "c{b}{b}{b}{b}", "d" + "z".repeat(60), "e", "f{0}{0}",
                "g{1}{g}");
    }

    /** How many signs a text puts, by what is left of 40. */
    private static void puts(Desk desk, String text, int want) {
        desk.put('h', "{?{c}{c}{c}{c}|" + text + "}{d}");
        long left = desk.shown('h').chars().filter(sign -> sign == 'z').count();
        CHECKS.due("signs put by " + text, 40 - left, want);
    }

    private static void signsPutByPieces() {
        Desk desk = wikiOfSigns();
        puts(desk, "", 0);
        puts(desk, "k; *", 4);
        puts(desk, "'|k>'", 3);
        puts(desk, "''", 0);
        puts(desk, "[a]", 1);
        puts(desk, "[a|kk]", 2);
        puts(desk, "[a|]", 0);
        puts(desk, "[#k]", 0);
        puts(desk, "(kk)", 2);
        puts(desk, "<kk>", 0);
        puts(desk, "{l}", 1);
        desk = wikiOfSigns();
        puts(desk, "{h}", 1);
        puts(desk, "{e}", 0);
        puts(desk, "{+12+3}", 6);
        puts(desk, "{+0-2}", 5);
        puts(desk, "{+k}", 2);
        puts(desk, "{+}", 1);
        puts(desk, "{@}", 1);
        desk.wiki.pass(9);
        desk.wiki.pass(9);
        puts(desk, "{@}", 2);
    }

    private static void signsPutByArguments() {
        Desk desk = wikiOfSigns();
        puts(desk, "{e|kkk}", 3);
        puts(desk, "{e|k|kk|}", 3);
        puts(desk, "{f|kk}", 6);
        puts(desk, "{f|{f|k}}", 7);
        puts(desk, "{k|kk}", 3);
        puts(desk, "{h|kk}", 3);
        puts(desk, "{g|k|kk}", 6);
        puts(desk, "{0|kk}", 2);
        puts(desk, "{0}", 0);
    }

    private static void signsPutByChoices() {
        Desk desk = wikiOfSigns();
        puts(desk, "{?kk|iii|nnnn}", 5);
        puts(desk, "{? |iii|nnnn}", 5);
        puts(desk, "{=kk|kk|i|nn}", 5);
        puts(desk, "{=kk|k|i|nn}", 5);
        puts(desk, "{#kk|pp=i|kk=nn|qqq=v}", 8);
        puts(desk, "{#k|k|qqqq|q=nn}", 4);
        desk = wikiOfSigns();
        puts(desk, "{#kk|pp=i|rrr}", 10);
        puts(desk, "{#kk|pp=i|rrr=v}", 7);
        puts(desk, "{#k|k}", 2);
        puts(desk, "{?{?k|ii}|n}", 4);
    }

    private static void aThousandSigns() {
        for (int more = 39; more <= 41; more++) {
            Desk desk = wikiOfSigns();
            desk.put('i', "y".repeat(more - 1) + "v");
            shows(desk, "{?{c}{c}{c}{c}|{i}}w", "y".repeat(more - 1)
                    + (more == 39 ? "vw" : more == 40 ? "v" : ""));
            shows(desk, "{?{c}{c}{c}{c}|{i}ww}", "y".repeat(more - 1)
                    + (more == 39 ? "vw" : more == 40 ? "v" : ""));
            shows(desk, "{?{c}{c}{c}{c}{i}|s}", more == 39 ? "s" : "");
        }
    }

    private static void aThousandSignsAndNumbers() {
        Desk desk = wikiOfSigns();
        desk.put('i', x(37));
        shows(desk, "{?{c}{c}{c}{c}{i}|{l}{k}{j}}{+}", "lkj");
        shows(desk, "{?{c}{c}{c}{c}{i}|{+12}}", "1");
        shows(desk, "{?{c}{c}{c}{c}{i}|{+123}}", "");
        desk.put('i', x(35));
        shows(desk, "{?{c}{c}{c}{c}{i}|{+1*12}}", "1");
        shows(desk, "{?{c}{c}{c}{c}{i}|{+0-5}}", "-5");
        shows(desk, "{?{c}{c}{c}{c}{i}|{+10-5}}", "5");
        shows(desk, "{?{c}{c}{c}{c}{i}|{+10-55}}", "");
        desk.put('i', x(36));
        shows(desk, "{?{c}{c}{c}{c}{i}|{+0-5}}", "-");
        desk.wiki.pass(9);
        desk.wiki.pass(9);
        desk.put('i', x(39));
        shows(desk, "{?{c}{c}{c}{c}{i}|{@}}", "1");
    }

    private static void comparingBehindAThousand() {
        Desk desk = wikiOfSigns();
        desk.put('i', x(40));
        shows(desk, "{?{c}{c}{c}{c}{i}|[k]{=b|c|[i]|[j]}{?b|[e]|[f]}}", "");
        CHECKS.due("nothing is as nothing", desk.links('a'), Desk.bits("kif"));
        desk.put('i', x(39));
        shows(desk, "{?{c}{c}{c}{c}{i}|{=b|b|[i]|[j]}}", "");
        CHECKS.due("the thousandth, and nothing", desk.links('a'), Desk.bits("j"));
        desk.put('i', x(38));
        shows(desk, "{?{c}{c}{c}{c}{i}|{=b|b|[i]|[j]}}", "");
        CHECKS.due("two are put", desk.links('a'), Desk.bits("i"));
        desk.put('i', x(37));
        shows(desk, "{?{c}{c}{c}{c}{i}|{=b|b|[i]|[j]}}", "i");
    }

    private static void eachExpansionPutsAThousand() {
        Desk desk = wikiOfSigns();
        desk.put('i', "{?{c}{c}{c}{c}{b}|y}n");
        CHECKS.due("nothing is left", desk.shown('i'), "");
        CHECKS.due("the next begins anew", desk.shows('j', "{?{c}{c}{c}{c}|y}n"), "yn");
        CHECKS.due("anew", desk.shownAnew('j'), "yn");
        CHECKS.due("a call does not", desk.shows('k', "{i}{j}"), "");
    }

    // ---- cut behind 200 characters

    private static void twoHundredShown() {
        for (int length = 199; length <= 201; length++) {
            Desk desk = wikiOf("b" + x(60), "c" + x(length - 181) + "y");
            desk.put('a', "{b}{b}{b}{c}");
            Wikiwright wiki = desk.wiki;
            int shown = Math.min(length, 200);
            CHECKS.due("size of " + length, wiki.size(0), shown);
            CHECKS.due("its last", wiki.shown(0, shown - 1), length > 200 ? 'x' : 'y');
            CHECKS.dueOutOfBounds("behind its last", () -> wiki.shown(0, shown));
            CHECKS.due("its last anew", wiki.shownAnew(0, shown - 1), length > 200 ? 'x' : 'y');
            CHECKS.due("behind it anew", wiki.shownAnew(0, shown), Wikiwright.NONE);
            desk.tape("xy");
            CHECKS.due("found in " + length, wiki.search() & 1, length > 200 ? 0 : 1);
        }
    }

    private static void whatIsBehindTwoHundred() {
        Desk desk = wikiOf("b" + x(60), "c" + x(20), "dy");
        desk.put('a', "{b}{b}{b}{c}{d}");
        desk.put('d', "z");
        CHECKS.due("what is cut may change", desk.isFresh('a'), true);
        desk.put('d', "[k]");
        CHECKS.due("but not its links", desk.isFresh('a'), false);
        desk.put('d', "z");
        desk.put('c', x(19));
        CHECKS.due("what moves up is shown", desk.isFresh('a'), false);
        CHECKS.due("the 200th anew", desk.wiki.shownAnew(0, 199), 'z');
        CHECKS.due("the 200th is kept", desk.wiki.shown(0, 199), 'x');
    }

    // ---- numbers of 1 to 3 digits, -9999 to 9999

    private static void amounts() {
        Desk desk = new Desk();
        shows(desk, "{+9}{+99}{+999}{+9999}", "999999!");
        shows(desk, "{+0}{+00}{+000}{+0000}{+001}", "000!1");
        shows(desk, "{+1+999},{+1+1000}", "1000,!");
        shows(desk, "{+}{+ }{+''}{+1+}{+-1}{+1+-1}{+1**2}{+a}{+1a}", "!!!!!!!!!");
        shows(desk, "{+1 2 3},{+12 34},{+ 1 + 2 }", "123,!,3");
        shows(desk, "{+5-5},{+5-6},{+0*5},{+0-0}", "0,-1,0,0");
    }

    private static void nearestAmounts() {
        Desk desk = new Desk();
        shows(desk, "{+909*11},{+909*11-1},{+100*99+99}", "9999,9998,9999");
        shows(desk, "{+909*11+1},{+909*11+1-1},{+100*100}", "9999,9998,9999");
        shows(desk, "{+0-909*11},{+0-909*11+1}", "-9999,-9998");
        shows(desk, "{+0-909*11-1},{+0-909*11-1+1}", "-9999,-9998");
        shows(desk, "{+999*999*999*999},{+0-999*999*999}", "9999,-9999");
        shows(desk, "{+999*999-999-999},{+2+3*4-1}", "8001,19");
    }

    // ---- at most 12 revisions

    private static Desk wikiOfRevisions(int count) {
        Desk desk = new Desk();
        for (int revision = 0; revision < count; revision++) {
            CHECKS.due("revision", desk.put('a', "a;" + revision), revision);
        }
        return desk;
    }

    private static void twelveSaves() {
        Desk desk = wikiOfRevisions(12);
        CHECKS.dueBadState("the 13th", () -> desk.put('a', "y"));
        CHECKS.dueBadState("the 13th, merged", () -> desk.putOn('a', 3, "b;3"));
        CHECKS.due("12 still", desk.wiki.revisions(0), 12);
        CHECKS.due("the last one", desk.lastText('a'), "a;11");
        Desk room = wikiOfRevisions(11);
        CHECKS.due("the 12th, merged", room.putOn('a', 3, "b;3"), 11);
        CHECKS.due("merged", room.lastText('a'), "b;10");
    }

    private static void twelveWithAnUndo() {
        Desk desk = wikiOfRevisions(12);
        CHECKS.dueBadState("the 13th by undoing", () -> desk.wiki.undo(0, 0, 11));
        CHECKS.dueOutOfBounds("revision 12", () -> desk.wiki.undo(0, 0, 12));
        Desk room = wikiOfRevisions(11);
        CHECKS.due("the 12th by undoing", room.wiki.undo(0, 0, 10), 11);
        CHECKS.due("undone", room.lastText('a'), "a;9");
    }

    private static void twelveAreMoved() {
        Desk desk = wikiOfRevisions(12);
        CHECKS.due("move 12", desk.wiki.move(0, 0, 11), 12);
        CHECKS.due("moved", desk.wiki.revisions(11), 12);
        CHECKS.due("the last one", desk.lastText('l'), "a;11");
        CHECKS.dueBadState("the 13th there", () -> desk.put('l', "y"));
        CHECKS.due("one is left", desk.wiki.revisions(0), 1);
        for (int revision = 1; revision < 12; revision++) {
            CHECKS.due("room for 11", desk.put('a', "y"), revision);
        }
        CHECKS.dueBadState("the 13th here", () -> desk.put('a', "y"));
    }

    private static void twelveOfARedirect() {
        for (int count = 10; count <= 12; count++) {
            Desk desk = wikiOf("btext", "d{a}");
            for (int revision = 0; revision < count; revision++) {
                desk.put('a', ">b");
            }
            desk.wiki.work(20);
            desk.wiki.watch(0, 0, true);
            desk.wiki.move(1, 1, 2);
            CHECKS.due("what stands on it and it wait", desk.wiki.waiting(), 2);
            CHECKS.due("worked off with " + count, desk.wiki.work(2), 2);
            boolean isFull = count == 12;
            CHECKS.due("revisions then", desk.wiki.revisions(0), isFull ? 12 : count + 1);
            CHECKS.due("its text then", desk.lastText('a'), isFull ? ">b" : ">c");
            CHECKS.due("it shows itself", desk.shown('a'), isFull ? ">b" : ">c");
            CHECKS.due("what stands on it waits", desk.wiki.waiting(), isFull ? 0 : 1);
            CHECKS.due("news of it", desk.wiki.news(0), isFull ? 0 : 1);
            desk.wiki.work(20);
            CHECKS.due("what is called by it", desk.shown('d'), isFull ? "a" : "text");
        }
    }

    // ---- the ticks and the jobs

    private static void ticks() {
        Desk desk = new Desk();
        Wikiwright wiki = desk.wiki;
        desk.put('a', "{@}");
        for (int ticks = 1; ticks <= 9; ticks++) {
            CHECKS.due("pass " + ticks, wiki.pass(ticks), ticks * (ticks + 1) / 2);
        }
        for (int passed = 0; passed < 105; passed++) {
            wiki.pass(9);
        }
        CHECKS.due("998 shown by none yet", desk.shown('a'), "0");
        CHECKS.due("pass to 998", wiki.pass(8), 998);
        wiki.work(1);
        CHECKS.due("998 is shown", desk.shown('a'), "998");
        CHECKS.dueBadState("to 1000", () -> wiki.pass(2));
        CHECKS.due("none waits for it", wiki.waiting(), 0);
        CHECKS.due("to 999", wiki.pass(1), 999);
        CHECKS.dueBadState("from 999", () -> wiki.pass(1));
        CHECKS.due("it waits once", wiki.work(20), 1);
        CHECKS.due("999 is shown", desk.shown('a'), "999");
        CHECKS.dueBadArgument("no tick", () -> wiki.pass(0));
        CHECKS.dueBadArgument("ten ticks", () -> wiki.pass(10));
    }

    /** Ten pages wait ahead of a redirect, and once more when its text is another. */
    private static Desk wikiOfTwentyOneJobs() {
        Desk desk = wikiOf("a>b", "b{a}");
        for (char letter = 'd'; letter <= 'l'; letter++) {
            desk.put(letter, "{a}");
        }
        desk.wiki.work(20);
        desk.wiki.move(0, 1, 2);
        return desk;
    }

    private static void jobs() {
        Wikiwright all = wikiOfTwentyOneJobs().wiki;
        CHECKS.due("eleven wait", all.waiting(), 11);
        CHECKS.due("twenty jobs", all.work(20), 20);
        CHECKS.due("one is left", all.waiting(), 1);
        CHECKS.due("the last job", all.work(20), 1);
        CHECKS.due("none is left", all.work(1), 0);
        Wikiwright some = wikiOfTwentyOneJobs().wiki;
        CHECKS.due("one job", some.work(1), 1);
        CHECKS.due("ten wait", some.waiting(), 10);
        CHECKS.due("ten jobs", some.work(10), 10);
        CHECKS.due("ten wait again", some.waiting(), 10);
        CHECKS.due("nineteen jobs", some.work(19), 10);
        CHECKS.dueBadArgument("no job", () -> some.work(0));
        CHECKS.dueBadArgument("21 jobs", () -> some.work(21));
    }

    public static void main(String[] args) {
        sixtySignsOfATape();
        sixtySignsSearched();
        sixtySignsOfAMerge();
        sixtySignsOfAnUndo();
        eightOpen();
        theNinthIsAWholePiece();
        eightDeepInFiveCalls();
        theNinthOfAMerge();
        fiveCallsOpen();
        argumentsOfOpenCalls();
        thoseBeingExpanded();
        sixtyCalls();
        whatIsNoCallOfSixty();
        sixtyCallsAlsoOutOfSight();
        signsPutByPieces();
        signsPutByArguments();
        signsPutByChoices();
        aThousandSigns();
        aThousandSignsAndNumbers();
        comparingBehindAThousand();
        eachExpansionPutsAThousand();
        twoHundredShown();
        whatIsBehindTwoHundred();
        amounts();
        nearestAmounts();
        twelveSaves();
        twelveWithAnUndo();
        twelveAreMoved();
        twelveOfARedirect();
        ticks();
        jobs();
        CHECKS.finish();
    }
}
