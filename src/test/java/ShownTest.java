/** Promises 13 to 21: what pages show, stand on and link to, and the search. */
public final class ShownTest {

    private static final Checks CHECKS = new Checks("ShownTest");

    /** What a text shows on the page a of a wiki in which some other pages have texts. */
    private static void shows(String text, String want, String... others) {
        Desk desk = wikiOf(others);
        CHECKS.due(text, desk.shows('a', text), want);
    }

    /** Each of the others is a letter of a page and its text. */
    private static Desk wikiOf(String... others) {
        Desk desk = new Desk();
        for (String other : others) {
            desk.put(other.charAt(0), other.substring(1));
        }
        return desk;
    }

    private static void plainAndParts() {
        shows("ab 0;.,:-!/+*=", "ab 0;.,:-!/+*=");
        shows("x'{a}|~'y''", "x{a}|~y");
        shows("[b] [c|see 'C'] [d|]", "b see C ");
        shows("a[#k]b", "ab");
        shows("(mine)<theirs>", "mine");
        shows("{b}", "theirs", "b(mine)<theirs>");
        shows("{b|(m)<t>}{0|(n)<u>}", "mn", "b{0}");
        shows("{b}", "1", "b<(x)<1>>");
        shows(">c", ">c");
        shows("", "");
    }

    private static void callsOfPages() {
        shows("{b}", "b");
        shows("{b|x}{l}", "bl");
        shows("{b}{b}", "xx", "bx");
        shows("{b}", "", "b");
        shows("{b|1|2}", "21", "b{1}{0}");
        shows("{b|1}", "1-", "b{0}{1|-}{2}");
        shows("{b|}", "", "b{0|no}");
        shows("{0|x}{1}", "x");
        shows("{b|p|q}", "qx", "b{c|{1}}", "c{0}{1|x}");
        shows("{b|p}", "none", "b{c}", "c{0|none}");
        shows("{b|{c|1}|{c|2}}", "2,1", "b{1},{0}", "c{0}");
        shows("{b|a|b|c|d|e|f|g|h|i|j}", "j", "b{9}");
        shows("{b|{b|{b|x}}}", "x...", "b{0}.");
    }

    private static void redirects() {
        shows("{b|1}", "c1", "b>c", "cc{0}");
        shows("{b}", "b", "b>c");
        shows("{b}", "b", "b>c", "c>d", "dx");
        shows("{b}", "b", "b>b");
        shows("{b}x", "!x", "b>a");
        shows("{b}{c}{d}", "xc1>.a", "bxc", "c1'>'", "d.a");
        shows("xc", "xc");
        Desk desk = wikiOf("b>c", "c>d", "dx");
        desk.put('a', "{b}");
        CHECKS.due("stands on a redirect and where it leads", desk.stands('a'), Desk.bits("bc"));
        CHECKS.due("does not link there", desk.links('a'), 0);
        CHECKS.due("a redirect stands on nothing", desk.stands('b'), 0);
        CHECKS.due("a redirect links to where it leads", desk.links('b'), Desk.bits("c"));
        CHECKS.due("what is expanded is shown in full", desk.shows('e', "{c}"), "x");
        CHECKS.due("it stands on both", desk.stands('e'), Desk.bits("cd"));
    }

    private static void loopsAndLimits() {
        shows("{a}", "!");
        shows("{b}x", "!yx", "b{a}y");
        shows("{b}", "!!", "b{b}{a}");
        shows("{b}", "12345!", "b1{c}", "c2{d}", "d3{e}", "e4{f}", "f5{g}", "g6");
        shows("{b}", "12345g", "b1{c}", "c2{d}", "d3{e}", "e4{f}", "f5{g}");
        shows("{b}", "12345h", "b1{c}", "c2{d}", "d3{e}", "e4{f}", "f5{h}", "h>g");
        shows("{b|{b|{b|{b|{b|{b|{b|x}}}}}}}", "x", "b{0}");
        String twenty = "{b}".repeat(20);
        shows(twenty, "y".repeat(20), "by");
        String four = "{c}{c}{c}{c}";
        shows("{b}".repeat(13), ("yyyy").repeat(12) + "!", "b" + four, "cy");
        shows("{b}".repeat(12) + "{d}{c}", "yyyy".repeat(12) + "d!", "b" + four, "cy");
        shows("{b}".repeat(11) + "{c}{b}{b}", "yyyy".repeat(11) + "yyyy!!", "b" + four, "cy");
        shows("{b}".repeat(11) + "{c}{c}{b}", "yyyy".repeat(11) + "yyyy!!", "b" + four, "cy");
        Desk desk = wikiOf("b{a}{c}");
        desk.put('a', "{b}");
        CHECKS.due("stands also where ! is shown", desk.stands('a'), Desk.bits("abc"));
        Desk deep = wikiOf("b{c}", "c{d}", "d{e}", "e{f}", "f{g}", "gx");
        deep.put('a', "{b}");
        CHECKS.due("stands also on what is too deep", deep.stands('a'), Desk.bits("bcdefg"));
    }

    private static void argumentsFirst() {
        Desk desk = wikiOf("by");
        CHECKS.due("unused arguments", desk.shows('a', "{b|[c][#d]{@}{e}}"), "y");
        CHECKS.due("unused arguments link", desk.links('a'), Desk.bits("c"));
        CHECKS.due("unused arguments have labels", desk.labels('a'), Desk.bits("d"));
        CHECKS.due("unused arguments stand", desk.stands('a'), Desk.bits("be"));
        desk.put('a', "{k|[d]{f}}");
        CHECKS.due("those of a call without a text link", desk.links('a'), Desk.bits("d"));
        CHECKS.due("those of a call without a text stand", desk.stands('a'), Desk.bits("kf"));
        desk.put('a', "{a|[d]}");
        CHECKS.due("those of a ! link", desk.links('a'), Desk.bits("d"));
    }

    private static void choices() {
        shows("{?|y|n}{?  |y|n}{? x |y|n}{?''|y}{?0|y}", "nnyy");
        shows("{?{b}|y|n}", "n", "b  ");
        shows("{=a|a|y|n}{= a| a  |y|n}{=a b|ab|y|n}", "yyn");
        shows("{=|  |y}{=a|b|y}{=a|b|y|}{={+1+1}|2|y}", "yy");
        shows("{= a|a|y}", "y");
        shows("{=abcd| abcd |y|n}{=abcd|abce|y|n}", "yn");
        shows("{=abcd|bbcd|y|n}{=abcd|abc|y|n}", "nn");
        Desk desk = wikiOf("bx");
        desk.put('a', "{?x|[c]|[d]}{=x|y|[e]|[f]}{0|[g]}");
        CHECKS.due("only what is shown links", desk.links('a'), Desk.bits("cfg"));
        desk.put('a', "{b|x}<[h]>([i])");
        CHECKS.due("only parts that are shown link", desk.links('a'), Desk.bits("i"));
        desk.put('c', "{0|[j]}<[k]>");
        desk.put('a', "{c|x}");
        CHECKS.due("a default that is not shown", desk.links('a'), Desk.bits("k"));
    }

    private static void switches() {
        shows("{#p|p=1|q=2}{#q|p=1|q=2}{#r|p=1|q=2}", "12");
        shows("{#p|p|q=2|3}{#p|p|3}{#p|q=1|p}", "2");
        shows("{#z|p=1|5}{#z|5|p=1}{#z|p=1|}", "5");
        shows("{#p|p=a=b}{# p|p =x}{#|=e}", "a=bxe");
        shows("{#p|'p='|p'='|p=1}{#p=|'p='|x=2}", "12");
        shows("{#p|{=p|p|p}=1}{#p|p(=)|2}", "12");
        shows("{#p|p=1|p=2}{#|}{#x|x}", "1");
        shows("{#p|x|p|y|z=4|w=5}", "4");
        shows("{#1|{+0+1}=k|d}{#5|{b}}", "kb");
        Desk desk = wikiOf();
        desk.put('a', "{#p|[c]=1|p=[d]|[e]=3|[f]}");
        CHECKS.due("keys up to the taken one", desk.links('a'), Desk.bits("cd"));
        desk.put('a', "{#p|[c]=1|q=[d]|[e]=3|[f]}");
        CHECKS.due("all keys, and the last case", desk.links('a'), Desk.bits("cef"));
        CHECKS.due("the last one, shown itself", desk.shown('a'), "f");
        desk.put('a', "{#p|p|[g]|[h]=[i]|[j]}");
        CHECKS.due("a fall expands no keys", desk.links('a'), Desk.bits("i"));
        shows("{#d|a=1|{b}}", "1", "b{+2-1}");
    }

    private static void reckonings() {
        shows("{+1}{+007}{+0}{+12 + 3 0}", "17042");
        shows("{+2+3*4},{+1-2*3},{+999*999},{+0-999*999}", "20,-3,9999,-9999");
        shows("{+999*999-1*2},{+100*100-1}", "9999,9998");
        shows("{+}{+ }{+1000}{+1+}{++1}{+-1}{+1++2}{+a}{+1/2}{+1=1}", "!!!!!!!!!!");
        shows("{+1 2 3}{+1 2 3 4}{+9*9*9*9}{+10-10}", "123!65610");
        shows("{+{b}*{b}}{+'5'}", "1445", "b12");
        shows("{+0-5}", "-5");
        shows("{+{+0-5}}", "!");
        shows("{+3{+0-5}}", "-2");
    }

    private static void time() {
        Desk desk = new Desk();
        desk.wiki.pass(9);
        CHECKS.due("the tick", desk.shows('a', "{@}"), "9");
        for (int times = 0; times < 110; times++) {
            desk.wiki.pass(9);
        }
        CHECKS.due("the last tick", desk.shows('a', "{@}.{+{@}+1}"), "999.1000");
    }

    private static void cutting() {
        Desk desk = wikiOf("b" + "x".repeat(60));
        desk.put('a', "{b}{b}{b}{b}");
        CHECKS.due("cut behind 200", desk.wiki.size(0), 200);
        CHECKS.due("the last sign", desk.wiki.shown(0, 199), 'x');
        CHECKS.dueOutOfBounds("behind the last sign", () -> desk.wiki.shown(0, 200));
        CHECKS.due("anew, behind it", desk.wiki.shownAnew(0, 200), Wikiwright.NONE);
        desk.put('c', "{b}{b}{b}y");
        desk.put('a', "{c}z");
        CHECKS.due("called texts are not cut", desk.shown('a'), "x".repeat(180) + "yz");
        CHECKS.due("cut ahead of what is expanded", desk.shows('a', "{b}{b}{b}{b}[d]").length(), 200);
        CHECKS.due("what is cut links", desk.links('a'), Desk.bits("d"));
    }

    private static void putting() {
        String sixty = "x".repeat(60);
        Desk desk = wikiOf("b" + sixty, "c{b}{b}{b}{b}");
        desk.put('d', "{?{c}{c}{c}{c}|y}z");
        CHECKS.due("960 in the condition, and more", desk.shown('d'), "yz");
        desk.put('d', "{?{c}{c}{c}{c}|{b}}z");
        CHECKS.due("40 are left", desk.shown('d'), "x".repeat(40));
        desk.put('d', "{?{c}{c}{c}{c}|{b}}[e][#f]{@}{g}");
        CHECKS.due("what is not put links", desk.links('d'), Desk.bits("e"));
        CHECKS.due("what is not put has labels", desk.labels('d'), Desk.bits("f"));
        CHECKS.due("what is not put stands", desk.stands('d'), Desk.bits("bcg"));
        desk.put('h', "{0}{0}");
        desk.put('d', "{h|{c}{b}}{?{b}|{b}}w");
        CHECKS.due("arguments shown again count", desk.shown('d').length(), 200);
        desk.put('d', "{=|{h|{c}{b}}|s|{#1|1=n}w}");
        CHECKS.due("900 put for a key that is not the same", desk.shown('d'), "nw");
        desk.put('d', "{=|{h|{c}{b}}|s|{?{b}|{b}w}}v");
        CHECKS.due("40 left behind 960", desk.shown('d'), "x".repeat(40));
        desk.put('d', "{?{h|{c}{b}}{b}{b}|{#z|y=[k]|[l]}}");
        CHECKS.due("keys that are not put are the same", desk.links('d'), Desk.bits("k"));
    }

    private static void keptAndAnew() {
        Desk desk = wikiOf("b1");
        desk.put('a', "{b}[c][#q]");
        desk.put('b', "22");
        CHECKS.due("kept", desk.shown('a'), "1c");
        CHECKS.due("anew", desk.shownAnew('a'), "22c");
        CHECKS.due("kept still", desk.wiki.size(0), 2);
        CHECKS.due("not fresh", desk.isFresh('a'), false);
        desk.wiki.work(1);
        CHECKS.due("fresh", desk.isFresh('a'), true);
        CHECKS.due("expanded", desk.shown('a'), "22c");
        CHECKS.due("labels", desk.labels('a'), 1 << 16);
    }

    private static void freshness() {
        fresh("by", "bx", "signs");
        fresh("b[c]", "b[d|c]", "links");
        fresh("b[#x]", "b[#y]", "labels");
        fresh("b{c}", "b{c|}{?{d}||}", "stands");
        fresh("b0", "b{@}", "being short-lived");
    }

    private static void fresh(String before, String after, String what) {
        Desk desk = wikiOf(before, "a{b}");
        CHECKS.due("fresh", desk.isFresh('a'), true);
        desk.put('b', after.substring(1));
        CHECKS.due("not fresh by " + what, desk.isFresh('a'), false);
    }

    private static void linking() {
        Desk desk = wikiOf("l[a]", "b[a|[l]]", "c>a", "d{b}");
        CHECKS.due("linked", desk.wiki.linked(0), Desk.bits("lbcd"));
        CHECKS.due("linked to the last page", desk.wiki.linked(11), Desk.bits("bd"));
        CHECKS.due("links", desk.links('b'), Desk.bits("al"));
        CHECKS.due("links of calls", desk.links('d'), Desk.bits("al"));
        desk.put('e', "[#a][#z]{f}");
        desk.put('f', "[#b]");
        CHECKS.due("labels", desk.labels('e'), 1 | 1 << 25);
        desk.wiki.work(1);
        CHECKS.due("labels of calls", desk.labels('e'), 3 | 1 << 25);
        desk.put('a', "[k]");
        CHECKS.due("linked from the first page", desk.wiki.linked(10), Desk.bits("a"));
        CHECKS.due("no labels of others", desk.labels('a'), 0);
        CHECKS.due("no links of others", desk.links('a'), Desk.bits("k"));
        CHECKS.due("stands on nothing of others", desk.stands('a'), 0);
    }

    private static void searching() {
        Desk desk = wikiOf("axyz", "by", "cyz", "lx'{y}'", "d>c");
        desk.tape("yz");
        CHECKS.due("search", desk.wiki.search(), Desk.bits("ac"));
        CHECKS.due("the tape stays", desk.wiki.wipe(), 2);
        desk.tape("{y");
        CHECKS.due("search in the last page", desk.wiki.search(), Desk.bits("l"));
        desk.tape(">");
        CHECKS.due("search a redirect", desk.wiki.search(), Desk.bits("d"));
        desk.tape("xyzz");
        CHECKS.due("search what is nowhere", desk.wiki.search(), 0);
        desk.wiki.wipe();
        CHECKS.dueBadState("search with nothing", () -> desk.wiki.search());
        desk.put('e', "xx{f}y");
        desk.put('f', "xy");
        desk.tape("xxy");
        CHECKS.due("search what is kept", desk.wiki.search(), 0);
        desk.wiki.work(1);
        CHECKS.due("search what starts over", desk.wiki.search(), Desk.bits("e"));
    }

    private static void wrongInputs() {
        Desk desk = wikiOf("axy");
        Wikiwright wiki = desk.wiki;
        for (int number : new int[] {-1, 12, Integer.MAX_VALUE, Integer.MIN_VALUE}) {
            int page = number;
            CHECKS.dueOutOfBounds("size", () -> wiki.size(page));
            CHECKS.dueOutOfBounds("shown", () -> wiki.shown(page, 0));
            CHECKS.dueOutOfBounds("shownAnew", () -> wiki.shownAnew(page, 0));
            CHECKS.dueOutOfBounds("isFresh", () -> wiki.isFresh(page) ? 1 : 0);
            CHECKS.dueOutOfBounds("links", () -> wiki.links(page));
            CHECKS.dueOutOfBounds("linked", () -> wiki.linked(page));
            CHECKS.dueOutOfBounds("labels", () -> wiki.labels(page));
            CHECKS.dueOutOfBounds("stands", () -> wiki.stands(page));
        }
        CHECKS.due("shown", wiki.shown(0, 1), 'y');
        CHECKS.dueOutOfBounds("shown behind", () -> wiki.shown(0, 2));
        CHECKS.dueOutOfBounds("shown ahead", () -> wiki.shown(0, -1));
        CHECKS.due("shownAnew", wiki.shownAnew(0, 1), 'y');
        CHECKS.due("shownAnew behind", wiki.shownAnew(0, 2), Wikiwright.NONE);
        CHECKS.due("shownAnew far behind", wiki.shownAnew(0, Integer.MAX_VALUE), Wikiwright.NONE);
        CHECKS.dueOutOfBounds("shownAnew ahead", () -> wiki.shownAnew(0, -1));
    }

    public static void main(String[] args) {
        plainAndParts();
        callsOfPages();
        redirects();
        loopsAndLimits();
        argumentsFirst();
        choices();
        switches();
        reckonings();
        time();
        cutting();
        putting();
        keptAndAnew();
        freshness();
        linking();
        searching();
        wrongInputs();
        CHECKS.finish();
    }
}
