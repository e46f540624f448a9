import java.util.Random;

/** Runs of calls drawn from fixed seeds, each answer compared with the oracle's. */
public final class RandomRunsTest {

    private static final int RUNS = 4000;
    private static final int LARGE_RUNS = 1000;
    private static final int TEXTS = 40000;

    /** Draws texts that lean towards those that hold calls of the first few pages. */
    private static final class Drawer {
        private final Random random;
        private final int pages;
        private final boolean isLarge;
        private char next = 'a';

        Drawer(Random random, int pages, boolean isLarge) {
            this.random = random;
            this.pages = pages;
            this.isLarge = isLarge;
        }

        /** Large texts lean towards one page each, so that there are long rows of calls. */
        private char page() {
            if (isLarge && random.nextInt(3) > 0) {
                return next;
            }
            return (char) ('a' + random.nextInt(pages));
        }

        String text(int page) {
            next = (char) ('a' + (page + 1 + 2 * pages) % pages);
            int kind = random.nextInt(12);
            if (kind == 0) {
                return ">" + page();
            }
            if (isLarge && kind > 3) {
                return large();
            }
            String text = pieces(1 + random.nextInt(5), 0);
            for (int tries = 0; tries < 20 && text.length() > 60; tries++) {
                text = pieces(1 + random.nextInt(3), 0);
            }
            text = text.length() > 60 ? text.substring(0, 60) : text;
            return kind == 1 ? spoilt(text) : text;
        }

        /** A text that shows much, so that the limits of an expansion are met. */
        private String large() {
            String repeated = random.nextInt(3) == 0 ? "xyz" : "{" + page() + "}";
            if (random.nextInt(4) == 0) {
                repeated = piece(random.nextInt(8));
            }
            StringBuilder text = new StringBuilder();
            while (text.length() + repeated.length() <= 20 + random.nextInt(30)) {
                text.append(repeated);
            }
            String last = piece(2);
            String all = random.nextInt(4) == 0 ? "{?" + text + "|" + last + "}" : text + last;
            return all.length() > 60 ? text.toString() : all;
        }

        private String spoilt(String text) {
            StringBuilder signs = new StringBuilder(text);
            int at = random.nextInt(signs.length() + 1);
            if (at < signs.length() && random.nextBoolean()) {
                signs.deleteCharAt(at);
            } else if (signs.length() < 60) {
                signs.insert(at, (char) (32 + random.nextInt(95)));
            }
            return signs.toString();
        }

        private String pieces(int count, int depth) {
            StringBuilder pieces = new StringBuilder();
            for (int piece = 0; piece < count; piece++) {
                pieces.append(piece(depth));
            }
            return pieces.toString();
        }

        private String some(int depth) {
            return pieces(random.nextInt(3), depth + 1);
        }

        private String piece(int depth) {
            String plain = "abxy0123 =;;+-*12 1";
            switch (random.nextInt(depth > 9 ? 6 : 22)) {
                case 6: return "[" + page() + "]";
                case 7: return "[" + page() + "|" + some(depth) + "]";
                case 8: return "[#" + (char) ('a' + random.nextInt(26)) + "]";
                case 9: return "<" + some(depth) + ">";
                case 10: return "(" + some(depth) + ")";
                case 11: return "{" + random.nextInt(3) + "}";
                case 12: return "{" + random.nextInt(3) + "|" + some(depth) + "}";
                case 13: return "{?" + some(depth) + bars(1, 2, depth) + "}";
                case 14: return "{=" + some(depth) + bars(2, 3, depth) + "}";
                case 15: return "{#" + some(depth) + bars(1, 4, depth) + "}";
                case 16: return "{+" + some(depth) + "}";
                case 17: return "{+" + random.nextInt(1000) + "*" + random.nextInt(100) + "}";
                case 18: return random.nextInt(3) == 0 ? "{@}" : "'|=x'";
                case 19:
                case 20:
                case 21: return "{" + page() + bars(0, 3, depth) + "}";
                default: return "" + plain.charAt(random.nextInt(plain.length()));
            }
        }

        private String bars(int least, int most, int depth) {
            StringBuilder bars = new StringBuilder();
            int count = least + random.nextInt(most - least + 1);
            for (int bar = 0; bar < count; bar++) {
                bars.append('|').append(some(depth));
            }
            return bars.toString();
        }
    }

    private final Random random;
    private final Drawer drawer;
    private final Wikiwright wiki = new Wikiwright();
    private final Oracle oracle = new Oracle();
    private final int pages;
    private final boolean isLarge;
    private final Checks checks;
    private final String run;

    private RandomRunsTest(int seed, boolean isLarge, Checks checks) {
        this.checks = checks;
        run = "run " + seed + ": ";
        random = new Random(seed);
        pages = isLarge ? 7 + random.nextInt(3) : 2 + random.nextInt(11);
        this.isLarge = isLarge;
        drawer = new Drawer(random, pages, isLarge);
    }

    private static String told(Checks.Call call) {
        try {
            return "" + call.answer();
        } catch (RuntimeException thrown) {
            return thrown.getClass().getName();
        }
    }

    private boolean same(String what, Checks.Call call, Checks.Call due) {
        String want = told(due);
        String got = told(call);
        checks.due(run + what, got, want);
        return got.equals(want);
    }

    private int page() {
        return random.nextInt(30) == 0 ? random.nextInt(16) - 2 : random.nextInt(pages);
    }

    private int user() {
        return random.nextInt(30) == 0 ? random.nextInt(8) - 2 : random.nextInt(4);
    }

    private int revision(int page) {
        int count = page >= 0 && page < 12 ? oracle.revisions(page) : 0;
        return random.nextInt(12) == 0 ? random.nextInt(16) - 2 : random.nextInt(count + 1);
    }

    private static long number(boolean answer) {
        return answer ? 1 : 0;
    }

    private boolean writes(String text) {
        boolean same = same("wipe", wiki::wipe, oracle::wipe);
        for (char sign : text.toCharArray()) {
            same &= same("type " + sign, () -> wiki.type(sign), () -> oracle.type(sign));
        }
        return same & same("fault of " + text, wiki::fault, oracle::fault);
    }

    private boolean saves() {
        int page = page();
        int count = page >= 0 && page < 12 ? oracle.revisions(page) : 0;
        String text = count > 0 && random.nextInt(3) == 0 ? changed(page, count)
                : drawer.text(page);
        boolean same = writes(text);
        int user = user();
        int base = random.nextInt(4) > 0 ? count - 1 : revision(page);
        return same & same("save " + page + " " + base + " " + text,
                () -> wiki.save(user, page, base), () -> oracle.save(user, page, base));
    }

    /** A text with some lines of an older one, so that merging has a chance. */
    private String changed(int page, int count) {
        StringBuilder old = new StringBuilder();
        int revision = random.nextInt(count);
        oracle.rank(3, 2);
        wiki.rank(3, 2);
        for (int place = 0; oracle.text(3, page, revision, place) != place; place++) {
            old.append((char) oracle.text(3, page, revision, place));
        }
        String[] lines = old.toString().split(";", -1);
        int line = random.nextInt(lines.length);
        lines[line] = random.nextInt(3) == 0 ? "" : lines[line] + "z";
        String text = String.join(";", lines);
        return text.length() > 60 ? text.substring(0, 60) : text;
    }

    private boolean changes() {
        int page = page();
        int user = user();
        int to = page();
        int revision = revision(page);
        int small = random.nextInt(5) - 1;
        boolean flag = random.nextBoolean();
        switch (isLarge && random.nextBoolean() ? 15 : random.nextInt(16)) {
            case 0: return same("undo", () -> wiki.undo(user, page, revision),
                    () -> oracle.undo(user, page, revision));
            case 1: return same("move " + page + " " + to, () -> wiki.move(user, page, to),
                    () -> oracle.move(user, page, to));
            case 2: return same("hide", () -> number(wiki.hide(user, page, revision)),
                    () -> number(oracle.hide(user, page, revision)));
            case 3:
            case 4: return same("work", () -> wiki.work(small), () -> oracle.work(small));
            case 5: return same("work", () -> wiki.work(20), () -> oracle.work(20));
            case 6: return same("pass", () -> wiki.pass(small), () -> oracle.pass(small));
            case 7: return same("rank", () -> wiki.rank(user, 2), () -> oracle.rank(user, 2));
            case 8: return same("rank", () -> wiki.rank(user, small), () -> oracle.rank(user, small));
            case 9: return same("protect", () -> wiki.protect(page, small, flag),
                    () -> oracle.protect(page, small, flag));
            case 10: return same("protect", () -> wiki.protect(page, 0, flag),
                    () -> oracle.protect(page, 0, flag));
            case 11: return same("watch", () -> number(wiki.watch(user, page, flag)),
                    () -> number(oracle.watch(user, page, flag)));
            case 12: return same("news", () -> wiki.news(user), () -> oracle.news(user));
            default: return saves();
        }
    }

    private boolean looks() {
        int page = page();
        int place = random.nextInt(70) - 2;
        int user = user();
        int revision = revision(page);
        int other = revision(page);
        return same("size " + page, () -> wiki.size(page), () -> oracle.size(page))
                & same("shown " + page, () -> wiki.shown(page, place),
                        () -> oracle.shown(page, place))
                & same("shownAnew " + page, () -> wiki.shownAnew(page, place),
                        () -> oracle.shownAnew(page, place))
                & same("isFresh " + page, () -> number(wiki.isFresh(page)),
                        () -> number(oracle.isFresh(page)))
                & same("links " + page, () -> wiki.links(page), () -> oracle.links(page))
                & same("linked " + page, () -> wiki.linked(page), () -> oracle.linked(page))
                & same("labels " + page, () -> wiki.labels(page), () -> oracle.labels(page))
                & same("stands " + page, () -> wiki.stands(page), () -> oracle.stands(page))
                & same("search", wiki::search, oracle::search)
                & same("waiting", wiki::waiting, oracle::waiting)
                & same("needs " + page, () -> wiki.needs(page), () -> oracle.needs(page))
                & same("revisions " + page, () -> wiki.revisions(page),
                        () -> oracle.revisions(page))
                & same("author " + page, () -> wiki.author(page, revision),
                        () -> oracle.author(page, revision))
                & same("text " + page, () -> wiki.text(user, page, revision, place),
                        () -> oracle.text(user, page, revision, place))
                & same("differs " + page, () -> wiki.differs(page, revision, other),
                        () -> oracle.differs(page, revision, other));
    }

    private boolean looksAtAll() {
        boolean same = true;
        for (int number = 0; number < 12; number++) {
            int page = number;
            same &= same("size " + page, () -> wiki.size(page), () -> oracle.size(page));
            for (int at = 0; at < oracle.size(page); at++) {
                int place = at;
                same &= same("shown " + page + " " + place, () -> wiki.shown(page, place),
                        () -> oracle.shown(page, place));
            }
            same &= same("stands " + page, () -> wiki.stands(page), () -> oracle.stands(page));
            same &= same("links " + page, () -> wiki.links(page), () -> oracle.links(page));
        }
        return same;
    }

    private boolean goesOn() {
        for (int call = 0; call < 60; call++) {
            if (!changes() || !looks()) {
                return false;
            }
        }
        return looksAtAll();
    }

    private static boolean faultsAreAlike(Checks checks) {
        Random random = new Random(7);
        Drawer drawer = new Drawer(random, 12, false);
        Desk desk = new Desk();
        for (int text = 0; text < TEXTS; text++) {
            String drawn = drawer.spoilt(drawer.text(text % 12));
            int got = desk.fault(drawn);
            checks.due("the fault of " + drawn, got, Oracle.faultOf(drawn));
            if (got != Oracle.faultOf(drawn)) {
                return false;
            }
        }
        return true;
    }

    /** Runs of texts that show much; that they meet the limits is looked at, too. */
    private static void largeRuns(Checks checks) {
        boolean isAlike = true;
        int tooDeep = 0;
        int tooMany = 0;
        int unput = 0;
        int cut = 0;
        for (int seed = RUNS; seed < RUNS + LARGE_RUNS && isAlike; seed++) {
            RandomRunsTest run = new RandomRunsTest(seed, true, checks);
            isAlike = run.goesOn();
            tooDeep += run.oracle.tooDeep;
            tooMany += run.oracle.tooMany;
            unput += run.oracle.unput;
            cut += run.oracle.cut;
        }
        checks.due("5 open calls are met", tooDeep > 500, true);
        checks.due("60 calls are met", tooMany > 1000, true);
        checks.due("1000 signs are met", unput > 1000, true);
        checks.due("200 signs are met", cut > 1000, true);
        System.out.println("RandomRunsTest: limits met " + tooDeep + ", " + tooMany + ", " + unput
                + ", " + cut + " times");
    }

    public static void main(String[] args) {
        Checks checks = new Checks("RandomRunsTest");
        boolean isAlike = faultsAreAlike(checks);
        for (int seed = 0; seed < RUNS && isAlike; seed++) {
            isAlike = new RandomRunsTest(seed, false, checks).goesOn();
        }
        if (isAlike) {
            largeRuns(checks);
        }
        checks.finish();
    }
}
