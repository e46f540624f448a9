/** A wiki of twelve pages and four users; DOC.md holds the promises that it keeps. */
public final class Wikiwright {

    public static final int NONE = -1;

    private static final int PAGES = 12;
    private static final int USERS = 4;
    private static final int TOP_RANK = 2;
    private static final int MOST_REVISIONS = 12;
    private static final int MOST_SIGNS = 60;
    private static final int MOST_SHOWN = 200;
    private static final int MOST_PUT = 1000;
    private static final int MOST_OPEN = 8;
    private static final int MOST_CALLS_OPEN = 5;
    private static final int MOST_TEXTS = 60;
    private static final int MOST_JOBS = 20;
    private static final int MOST_TICKS = 9;
    private static final int LAST_TICK = 999;
    private static final int FIRST_SIGN = 32;
    private static final int LAST_SIGN = 126;

    private final Page[] pages;
    private final int[] ranks;
    private final int[] watched;
    private final int[] unseen;
    private final Text tape;
    private final Grammar grammar;
    private final Merger merger;
    private final Expansion expansion;
    private final Kept anew;
    private final Queue queue;
    private int tick;

    public Wikiwright() {
        Page[] madePages = new Page[PAGES];
        for (int page = 0; page < PAGES; page++) {
            madePages[page] = new Page();
        }
        pages = madePages;
        ranks = new int[USERS];
        watched = new int[USERS];
        unseen = new int[USERS];
        tape = new Text(MOST_SIGNS);
        grammar = new Grammar();
        merger = new Merger();
        expansion = new Expansion(madePages);
        anew = new Kept();
        queue = new Queue();
    }

    // ---- the tape

    public int type(char character) throws IllegalArgumentException, IllegalStateException {
        if (character < FIRST_SIGN || character > LAST_SIGN) {
            throw new IllegalArgumentException("the character is out of range");
        }
        if (!tape.add(character)) {
            throw new IllegalStateException("the tape is full");
        }
        return tape.length();
    }

    public int wipe() {
        int had = tape.length();
        tape.clear();
        return had;
    }

    public int fault() {
        return grammar.faultOf(tape);
    }

    // ---- revisions

    public int save(int user, int page, int base)
            throws IndexOutOfBoundsException, IllegalArgumentException, IllegalStateException {
        checkUser(user);
        checkPage(page);
        Page changed = pages[page];
        if (base != NONE || changed.count() > 0) {
            checkRevision(page, base);
        }
        if (grammar.faultOf(tape) != NONE) {
            throw new IllegalArgumentException("the tape has a fault");
        }
        checkMayGrow(user, page);
        // If the base is the last one, or there are none, the tape itself comes of merging.
        checkMerges(changed.textOf(base), tape, changed.current());
        tape.clear();
        addRevision(page, user);
        showNewText(page);
        return changed.count() - 1;
    }

    public int undo(int user, int page, int revision)
            throws IndexOutOfBoundsException, IllegalStateException {
        checkUser(user);
        checkPage(page);
        checkRevision(page, revision);
        checkMayGrow(user, page);
        Page changed = pages[page];
        checkMerges(changed.textOf(revision), changed.textOf(revision - 1), changed.current());
        addRevision(page, user);
        showNewText(page);
        return changed.count() - 1;
    }

    public int move(int user, int page, int to)
            throws IndexOutOfBoundsException, IllegalStateException {
        checkUser(user);
        checkPage(page);
        checkPage(to);
        if (!mayChange(user, page) || !mayChange(user, to)) {
            throw new IllegalStateException("the user may not change one of both");
        }
        int moved = pages[page].count();
        if (moved == 0 || pages[to].count() > 0) {
            throw new IllegalStateException("there is nothing to move, or no room for it");
        }
        pages[to].takeRevisionsOf(pages[page]);
        tellWatchers(to, user);
        merger.takeRedirect(to);
        addRevision(page, user);
        showNewText(to);
        showNewText(page);
        queueRedirectsTo(page);
        return moved;
    }

    public boolean hide(int user, int page, int revision)
            throws IndexOutOfBoundsException, IllegalStateException {
        checkUser(user);
        checkPage(page);
        checkRevision(page, revision);
        if (ranks[user] != TOP_RANK) {
            throw new IllegalStateException("the rank is too low");
        }
        return pages[page].turnHidden(revision);
    }

    public int revisions(int page) throws IndexOutOfBoundsException {
        checkPage(page);
        return pages[page].count();
    }

    public int author(int page, int revision) throws IndexOutOfBoundsException {
        checkPage(page);
        checkRevision(page, revision);
        return pages[page].makerOf(revision);
    }

    public int text(int user, int page, int revision, int place)
            throws IndexOutOfBoundsException, IllegalStateException {
        checkUser(user);
        checkPage(page);
        checkRevision(page, revision);
        if (pages[page].isHidden(revision) && ranks[user] != TOP_RANK) {
            throw new IllegalStateException("the revision is hidden");
        }
        Text told = pages[page].textOf(revision);
        if (place < 0 || place > told.length()) {
            return NONE;
        }
        return place == told.length() ? place : told.signAt(place);
    }

    public int differs(int page, int revision, int other) throws IndexOutOfBoundsException {
        checkPage(page);
        checkRevision(page, revision);
        checkRevision(page, other);
        return pages[page].textOf(revision).linesUnlike(pages[page].textOf(other));
    }

    // ---- what is shown

    public int size(int page) throws IndexOutOfBoundsException {
        checkPage(page);
        return pages[page].kept.signs.length();
    }

    public int shown(int page, int place) throws IndexOutOfBoundsException {
        checkPage(page);
        Text signs = pages[page].kept.signs;
        if (place < 0 || place >= signs.length()) {
            throw new IndexOutOfBoundsException("no such place");
        }
        return signs.signAt(place);
    }

    public int shownAnew(int page, int place) throws IndexOutOfBoundsException {
        checkPage(page);
        if (place < 0) {
            throw new IndexOutOfBoundsException("no such place");
        }
        expansion.expand(page, tick, anew);
        return place < anew.signs.length() ? anew.signs.signAt(place) : NONE;
    }

    public boolean isFresh(int page) throws IndexOutOfBoundsException {
        checkPage(page);
        expansion.expand(page, tick, anew);
        return anew.isAs(pages[page].kept);
    }

    public int links(int page) throws IndexOutOfBoundsException {
        checkPage(page);
        return pages[page].kept.links;
    }

    public int linked(int page) throws IndexOutOfBoundsException {
        checkPage(page);
        int found = 0;
        for (int other = 0; other < PAGES; other++) {
            if ((pages[other].kept.links & bit(page)) != 0) {
                found |= bit(other);
            }
        }
        return found;
    }

    public int labels(int page) throws IndexOutOfBoundsException {
        checkPage(page);
        return pages[page].kept.labels;
    }

    public int stands(int page) throws IndexOutOfBoundsException {
        checkPage(page);
        return pages[page].kept.stands;
    }

    public int search() throws IllegalStateException {
        if (tape.length() == 0) {
            throw new IllegalStateException("the tape is empty");
        }
        int found = 0;
        for (int page = 0; page < PAGES; page++) {
            if (pages[page].kept.signs.holds(tape)) {
                found |= bit(page);
            }
        }
        return found;
    }

    // ---- the queue

    public int waiting() {
        return queue.count();
    }

    public int work(int jobs) throws IllegalArgumentException {
        if (jobs < 1 || jobs > MOST_JOBS) {
            throw new IllegalArgumentException("jobs is out of range");
        }
        int worked = 0;
        while (worked < jobs && queue.count() > 0) {
            workOff(queue.takeFirst());
            worked++;
        }
        return worked;
    }

    public int pass(int ticks) throws IllegalArgumentException, IllegalStateException {
        if (ticks < 1 || ticks > MOST_TICKS) {
            throw new IllegalArgumentException("ticks is out of range");
        }
        if (tick + ticks > LAST_TICK) {
            throw new IllegalStateException("there are no such late ticks");
        }
        tick += ticks;
        // The queue holds a page once, and so the ticks behind the first one add none.
        for (int page = 0; page < PAGES; page++) {
            if (pages[page].kept.isShortLived) {
                queue.add(page);
            }
        }
        return tick;
    }

    // ---- rights and watch lists

    public int rank(int user, int rank)
            throws IndexOutOfBoundsException, IllegalArgumentException {
        checkUser(user);
        if (rank < 0 || rank > TOP_RANK) {
            throw new IllegalArgumentException("rank is out of range");
        }
        int before = ranks[user];
        ranks[user] = rank;
        return before;
    }

    public int protect(int page, int protection, boolean cascades)
            throws IndexOutOfBoundsException, IllegalArgumentException {
        checkPage(page);
        if (protection < 0 || protection > TOP_RANK) {
            throw new IllegalArgumentException("protection is out of range");
        }
        pages[page].protection = protection;
        pages[page].cascades = cascades;
        return neededRank(page);
    }

    public int needs(int page) throws IndexOutOfBoundsException {
        checkPage(page);
        return neededRank(page);
    }

    public boolean watch(int user, int page, boolean does) throws IndexOutOfBoundsException {
        checkUser(user);
        checkPage(page);
        boolean did = watches(user, page);
        if (does) {
            watched[user] |= bit(page);
        } else {
            watched[user] &= ~bit(page);
        }
        return did;
    }

    public int news(int user) throws IndexOutOfBoundsException {
        checkUser(user);
        int had = unseen[user];
        unseen[user] = 0;
        return had;
    }

    // ---- what the calls share

    private static int bit(int number) {
        return 1 << number;
    }

    private static boolean isBetween(char sign, char first, char last) {
        return sign >= first && sign <= last;
    }

    private static boolean isPage(int number) {
        return number >= 0 && number < PAGES;
    }

    private static void checkUser(int user) {
        if (user < 0 || user >= USERS) {
            throw new IndexOutOfBoundsException("no such user");
        }
    }

    private static void checkPage(int page) {
        if (!isPage(page)) {
            throw new IndexOutOfBoundsException("no such page");
        }
    }

    private void checkRevision(int page, int revision) {
        if (revision < 0 || revision >= pages[page].count()) {
            throw new IndexOutOfBoundsException("no such revision");
        }
    }

    private void checkMayGrow(int user, int page) {
        if (!mayChange(user, page)) {
            throw new IllegalStateException("the user may not change the page");
        }
        if (pages[page].isFull()) {
            throw new IllegalStateException("the page has no room for a revision");
        }
    }

    private void checkMerges(Text base, Text one, Text other) {
        if (!merger.merges(base, one, other) || grammar.faultOf(merger.result()) != NONE) {
            throw new IllegalStateException("it cannot be merged");
        }
    }

    private int neededRank(int page) {
        int needed = pages[page].protection;
        for (int other = 0; other < PAGES; other++) {
            Page above = pages[other];
            if (above.cascades && above.kept.standsOn(page)) {
                needed = Math.max(needed, above.protection);
            }
        }
        return needed;
    }

    private boolean mayChange(int user, int page) {
        return ranks[user] >= neededRank(page);
    }

    private boolean watches(int user, int page) {
        return (watched[user] & bit(page)) != 0;
    }

    private void addRevision(int page, int maker) {
        pages[page].add(merger.result(), maker);
        tellWatchers(page, maker);
    }

    private void tellWatchers(int page, int maker) {
        for (int user = 0; user < USERS; user++) {
            if (user != maker && watches(user, page)) {
                unseen[user]++;
            }
        }
    }

    private void showNewText(int page) {
        expansion.expand(page, tick, pages[page].kept);
        for (int other = 0; other < PAGES; other++) {
            if (other != page && pages[other].kept.standsOn(page)) {
                queue.add(other);
            }
        }
    }

    private void queueRedirectsTo(int page) {
        for (int other = 0; other < PAGES; other++) {
            if (pages[other].current().target() == page) {
                queue.add(other);
            }
        }
    }

    private void workOff(int page) {
        if (!isPage(page)) {
            return;
        }
        int third = behindTwoRedirects(page);
        if (third != NONE && !pages[page].isFull()) {
            merger.takeRedirect(third);
            addRevision(page, NONE);
            showNewText(page);
        } else {
            expansion.expand(page, tick, pages[page].kept);
        }
    }

    private int behindTwoRedirects(int page) {
        int second = pages[page].current().target();
        if (!isPage(second)) {
            return NONE;
        }
        int third = pages[second].current().target();
        return third == page || third == second ? NONE : third;
    }

    /** Signs in a row, at most as many as it was made for. */
    private static final class Text {

        private final char[] signs;
        private int length;

        Text(int most) {
            signs = new char[Math.max(most, 0)];
        }

        int length() {
            return length;
        }

        void clear() {
            length = 0;
        }

        boolean add(char sign) {
            if (length >= signs.length) {
                return false;
            }
            signs[length] = sign;
            length++;
            return true;
        }

        char signAt(int place) {
            return place >= 0 && place < length ? signs[place] : (char) 0;
        }

        void copy(Text other) {
            length = 0;
            for (int place = 0; place < other.length; place++) {
                add(other.signAt(place));
            }
        }

        boolean isAs(Text other) {
            return length == other.length && hasAt(0, other, 0, length);
        }

        boolean holds(Text sought) {
            for (int from = 0; from + sought.length <= length; from++) {
                if (hasAt(from, sought, 0, sought.length)) {
                    return true;
                }
            }
            return false;
        }

        private boolean hasAt(int from, Text other, int otherFrom, int count) {
            for (int step = 0; step < count; step++) {
                if (signAt(from + step) != other.signAt(otherFrom + step)) {
                    return false;
                }
            }
            return true;
        }

        /** The page to which it leads, if it is a redirect; otherwise NONE. */
        int target() {
            return length == 2 && signAt(0) == '>' ? signAt(1) - 'a' : NONE;
        }

        int lines() {
            int lines = 1;
            for (int place = 0; place < length; place++) {
                if (signAt(place) == ';') {
                    lines++;
                }
            }
            return lines;
        }

        int lineEnd(int from) {
            int place = from;
            while (place < length && signAt(place) != ';') {
                place++;
            }
            return place;
        }

        boolean lineIsAs(int from, Text other, int otherFrom) {
            int count = lineEnd(from) - from;
            return count == other.lineEnd(otherFrom) - otherFrom
                    && hasAt(from, other, otherFrom, count);
        }

        int linesUnlike(Text other) {
            int mine = lines();
            int others = other.lines();
            int unlike = Math.abs(mine - others);
            int from = 0;
            int otherFrom = 0;
            for (int line = 0; line < Math.min(mine, others); line++) {
                if (!lineIsAs(from, other, otherFrom)) {
                    unlike++;
                }
                from = lineEnd(from) + 1;
                otherFrom = other.lineEnd(otherFrom) + 1;
            }
            return unlike;
        }

        /** The place right behind the piece that begins at a place of a text without a fault. */
        int behindPiece(int place) {
            int open = 0;
            boolean isKept = false;
            for (int at = Math.max(place, 0); at < length; at++) {
                char sign = signAt(at);
                if (sign == '\'') {
                    isKept = !isKept;
                } else if (!isKept) {
                    open += opening(sign);
                }
                if (open == 0 && !isKept) {
                    return at + 1;
                }
            }
            return length;
        }

        private static int opening(char sign) {
            switch (sign) {
                case '{':
                case '[':
                case '<':
                case '(':
                    return 1;
                case '}':
                case ']':
                case '>':
                case ')':
                    return -1;
                default:
                    return 0;
            }
        }

        /** The first place of a sign that is in no other piece; the end if there is none. */
        int ownPlace(char sought, int from, int end) {
            int place = from;
            for (int piece = 0; piece < MOST_SIGNS && place < end; piece++) {
                if (signAt(place) == sought) {
                    return place;
                }
                place = behindPiece(place);
            }
            return end;
        }

        int lastCase(int firstCase, int end) {
            int from = firstCase;
            for (int tried = 0; tried < MOST_SIGNS; tried++) {
                int behind = ownPlace('|', from, end);
                if (behind >= end) {
                    return from;
                }
                from = behind + 1;
            }
            return from;
        }

        /** Where the value begins that a case shows, its own or that of a later one; or the end. */
        int valueFrom(int firstCase, int end) {
            int from = firstCase;
            for (int tried = 0; tried < MOST_SIGNS && from < end; tried++) {
                int behind = ownPlace('|', from, end);
                int parting = ownPlace('=', from, behind);
                if (parting < behind) {
                    return parting + 1;
                }
                from = behind + 1;
            }
            return end;
        }
    }

    private static final class Revision {

        private final Text text = new Text(MOST_SIGNS);
        private int maker = NONE;
        private boolean isHidden;
    }

    /** What an expansion of a page gave. */
    private static final class Kept {

        private final Text signs = new Text(MOST_SHOWN);
        private int stands;
        private int links;
        private int labels;
        private boolean isShortLived;

        boolean standsOn(int page) {
            return (stands & bit(page)) != 0;
        }

        boolean isAs(Kept other) {
            return signs.isAs(other.signs) && stands == other.stands && links == other.links
                    && labels == other.labels && isShortLived == other.isShortLived;
        }
    }

    private static final class Page {

        private final Kept kept = new Kept();
        private final Text empty = new Text(0);
        private Revision[] made = new Revision[MOST_REVISIONS];
        private int count;
        private int protection;
        private boolean cascades;

        Page() {
            for (int revision = 0; revision < MOST_REVISIONS; revision++) {
                made[revision] = new Revision();
            }
        }

        int count() {
            return count;
        }

        boolean isFull() {
            return count >= MOST_REVISIONS;
        }

        private boolean has(int revision) {
            return revision >= 0 && revision < count;
        }

        Text textOf(int revision) {
            return has(revision) ? made[revision].text : empty;
        }

        Text current() {
            return textOf(count - 1);
        }

        int makerOf(int revision) {
            return has(revision) ? made[revision].maker : NONE;
        }

        boolean isHidden(int revision) {
            return has(revision) && made[revision].isHidden;
        }

        boolean turnHidden(int revision) {
            if (!has(revision)) {
                return false;
            }
            made[revision].isHidden = !made[revision].isHidden;
            return made[revision].isHidden;
        }

        void add(Text text, int maker) {
            if (isFull()) {
                return;
            }
            Revision added = made[count];
            added.text.copy(text);
            added.maker = maker;
            added.isHidden = false;
            count++;
        }

        /** The rows change hands, so that no revision is made twice. */
        void takeRevisionsOf(Page other) {
            Revision[] unused = made;
            made = other.made;
            count = other.count;
            other.made = unused;
            other.count = 0;
        }
    }

    /** Pages that wait, each once. */
    private static final class Queue {

        private final int[] numbers = new int[PAGES];
        private int count;

        int count() {
            return count;
        }

        void add(int page) {
            for (int at = 0; at < count && at < PAGES; at++) {
                if (numbers[at] == page) {
                    return;
                }
            }
            if (count < PAGES) {
                numbers[count] = page;
                count++;
            }
        }

        int takeFirst() {
            if (count == 0) {
                return NONE;
            }
            int first = numbers[0];
            count--;
            for (int at = 0; at < count && at + 1 < PAGES; at++) {
                numbers[at] = numbers[at + 1];
            }
            return first;
        }
    }

    /** Makes the text that a new revision has. */
    private static final class Merger {

        private final Text result = new Text(MOST_SIGNS);

        Text result() {
            return result;
        }

        void takeRedirect(int page) {
            result.clear();
            result.add('>');
            result.add((char) ('a' + page));
        }

        /** Tells whether the two can be merged into a result that is not too long. */
        boolean merges(Text base, Text one, Text other) {
            if (one.isAs(base)) {
                result.copy(other);
                return true;
            }
            if (other.isAs(base)) {
                result.copy(one);
                return true;
            }
            int lines = base.lines();
            return one.lines() == lines && other.lines() == lines
                    && mergesLines(base, one, other, lines);
        }

        private boolean mergesLines(Text base, Text one, Text other, int lines) {
            result.clear();
            int baseFrom = 0;
            int oneFrom = 0;
            int otherFrom = 0;
            boolean fits = true;
            for (int line = 0; line < lines && fits; line++) {
                boolean isParted = line == 0 || result.add(';');
                if (one.lineIsAs(oneFrom, base, baseFrom)) {
                    fits = isParted && addsLine(other, otherFrom);
                } else if (other.lineIsAs(otherFrom, base, baseFrom)
                        || other.lineIsAs(otherFrom, one, oneFrom)) {
                    fits = isParted && addsLine(one, oneFrom);
                } else {
                    fits = false;
                }
                baseFrom = base.lineEnd(baseFrom) + 1;
                oneFrom = one.lineEnd(oneFrom) + 1;
                otherFrom = other.lineEnd(otherFrom) + 1;
            }
            return fits;
        }

        private boolean addsLine(Text text, int from) {
            int end = text.lineEnd(from);
            for (int place = from; place < end; place++) {
                if (!result.add(text.signAt(place))) {
                    return false;
                }
            }
            return true;
        }
    }

    /** What may be open in a text, with the bars that it takes. */
    private enum Open {
        PAGE_CALL('}', 0, MOST_SIGNS, 1),
        DIGIT('}', 0, 1, 1),
        MAYBE('}', 1, 2, 0),
        ALIKE('}', 2, 3, 0),
        CASES('}', 1, MOST_SIGNS, 0),
        SUM('}', 0, 0, 0),
        TIME('}', 0, 0, 1),
        LINK(']', 0, 1, 1),
        LABEL(']', 0, 0, 1),
        FOR_OTHERS('>', 0, 0, 0),
        FOR_ITSELF(')', 0, 0, 0);

        private final int closer;
        private final int leastBars;
        private final int mostBars;
        private final int barsAheadOfPieces;

        Open(int closer, int leastBars, int mostBars, int barsAheadOfPieces) {
            this.closer = closer;
            this.leastBars = leastBars;
            this.mostBars = mostBars;
            this.barsAheadOfPieces = barsAheadOfPieces;
        }
    }

    /** Finds faults, sign by sign, by what is open. */
    private static final class Grammar {

        private static final String MARKS = " .,;:-!/+*=";
        private static final int IN_PIECES = 0;
        private static final int BEHIND_BRACE = 1;
        private static final int BEHIND_BRACKET = 2;
        private static final int BEHIND_HASH = 3;
        private static final int IN_KEPT = 4;

        private final Open[] opened = new Open[MOST_OPEN];
        private final int[] bars = new int[MOST_OPEN];
        private int open;
        private int where;

        Grammar() {
            for (int at = 0; at < MOST_OPEN; at++) {
                opened[at] = Open.PAGE_CALL;
            }
        }

        int faultOf(Text text) {
            if (text.signAt(0) == '>') {
                return redirectFaultOf(text);
            }
            open = 0;
            where = IN_PIECES;
            for (int place = 0; place < text.length(); place++) {
                if (!takes(text.signAt(place))) {
                    return place;
                }
            }
            return where == IN_PIECES && open == 0 ? NONE : text.length();
        }

        private static int redirectFaultOf(Text text) {
            if (!isPageLetter(text.signAt(1))) {
                return 1;
            }
            return text.length() == 2 ? NONE : 2;
        }

        private static boolean isPageLetter(char sign) {
            return isPage(sign - 'a');
        }

        private boolean takes(char sign) {
            switch (where) {
                case BEHIND_BRACE:
                    return takesHeadOfCall(sign);
                case BEHIND_BRACKET:
                    if (sign == '#') {
                        where = BEHIND_HASH;
                        return true;
                    }
                    return isPageLetter(sign) && becomes(Open.LINK);
                case BEHIND_HASH:
                    return isBetween(sign, 'a', 'z') && becomes(Open.LABEL);
                case IN_KEPT:
                    where = sign == '\'' ? IN_PIECES : IN_KEPT;
                    return true;
                default:
                    return takesInPieces(sign);
            }
        }

        private boolean takesHeadOfCall(char sign) {
            switch (sign) {
                case '?':
                    return becomes(Open.MAYBE);
                case '=':
                    return becomes(Open.ALIKE);
                case '#':
                    return becomes(Open.CASES);
                case '+':
                    return becomes(Open.SUM);
                case '@':
                    return becomes(Open.TIME);
                default:
                    if (isBetween(sign, '0', '9')) {
                        return becomes(Open.DIGIT);
                    }
                    return isPageLetter(sign) && becomes(Open.PAGE_CALL);
            }
        }

        private boolean takesInPieces(char sign) {
            switch (sign) {
                case '|':
                    return takesBar();
                case '}':
                case ']':
                case '>':
                case ')':
                    return closes(sign);
                default:
                    return mayHavePieces() && beginsPiece(sign);
            }
        }

        private boolean beginsPiece(char sign) {
            switch (sign) {
                case '{':
                    return opens(Open.PAGE_CALL, BEHIND_BRACE);
                case '[':
                    return opens(Open.LINK, BEHIND_BRACKET);
                case '<':
                    return opens(Open.FOR_OTHERS, IN_PIECES);
                case '(':
                    return opens(Open.FOR_ITSELF, IN_PIECES);
                case '\'':
                    where = IN_KEPT;
                    return true;
                default:
                    return isBetween(sign, 'a', 'z') || isBetween(sign, '0', '9')
                            || MARKS.indexOf(sign) >= 0;
            }
        }

        private boolean isAnyOpen() {
            return open > 0 && open <= MOST_OPEN;
        }

        private boolean opens(Open kind, int then) {
            if (open < 0 || open >= MOST_OPEN) {
                return false;
            }
            opened[open] = kind;
            bars[open] = 0;
            open++;
            where = then;
            return true;
        }

        /** What was opened by a sign turns out as a kind by its next signs. */
        private boolean becomes(Open kind) {
            if (!isAnyOpen()) {
                return false;
            }
            opened[open - 1] = kind;
            where = IN_PIECES;
            return true;
        }

        private boolean takesBar() {
            if (!isAnyOpen() || bars[open - 1] >= opened[open - 1].mostBars) {
                return false;
            }
            bars[open - 1]++;
            return true;
        }

        private boolean closes(char sign) {
            if (!isAnyOpen() || opened[open - 1].closer != sign
                    || bars[open - 1] < opened[open - 1].leastBars) {
                return false;
            }
            open--;
            return true;
        }

        private boolean mayHavePieces() {
            return !isAnyOpen() || bars[open - 1] >= opened[open - 1].barsAheadOfPieces;
        }
    }

    /** The signs put in an expansion that are still looked at, the newest last. */
    private static final class Sheet {

        private static final int FURTHEST = 9999;
        private static final int NO_AMOUNT = FURTHEST + 1;
        private static final int MOST_DIGITS = 3;

        private final char[] signs = new char[MOST_PUT];
        private int length;
        private int put;

        void begin() {
            length = 0;
            put = 0;
        }

        int length() {
            return length;
        }

        char signAt(int place) {
            return place >= 0 && place < length ? signs[place] : (char) 0;
        }

        void put(char sign) {
            if (put < MOST_PUT && length < MOST_PUT) {
                signs[length] = sign;
                length++;
                put++;
            }
        }

        void putFrom(Text text, int from, int end) {
            for (int place = from; place < end; place++) {
                put(text.signAt(place));
            }
        }

        void putAgain(int from, int end) {
            for (int place = from; place < end; place++) {
                put(signAt(place));
            }
        }

        void putNumber(int number) {
            if (number < 0) {
                put('-');
            }
            int rest = Math.abs(number);
            boolean hasBegun = false;
            for (int unit = 1000; unit >= 1; unit /= 10) {
                int digit = rest / unit % 10;
                hasBegun = hasBegun || digit > 0 || unit == 1;
                if (hasBegun) {
                    put((char) ('0' + digit));
                }
            }
        }

        void cut(int end) {
            length = Math.max(0, Math.min(length, end));
        }

        void dropBetween(int from, int end) {
            if (from < 0 || end < from || end > length) {
                return;
            }
            System.arraycopy(signs, end, signs, from, length - end);
            length -= end - from;
        }

        boolean hasMoreThanBlanks(int from, int end) {
            return firstBeside(from, end) < end;
        }

        /** Tells whether two rows side by side are the same without blanks at their ends. */
        boolean areAlike(int from, int middle, int end) {
            int one = firstBeside(from, middle);
            int other = firstBeside(middle, end);
            int count = behindLast(one, middle) - one;
            if (count != behindLast(other, end) - other) {
                return false;
            }
            for (int step = 0; step < count; step++) {
                if (signAt(one + step) != signAt(other + step)) {
                    return false;
                }
            }
            return true;
        }

        private int firstBeside(int from, int end) {
            int place = from;
            while (place < end && signAt(place) == ' ') {
                place++;
            }
            return place;
        }

        private int behindLast(int from, int end) {
            int place = end;
            while (place > from && signAt(place - 1) == ' ') {
                place--;
            }
            return place;
        }

        int amountOf(int from, int end) {
            int amount = 0;
            int number = 0;
            int digits = 0;
            char step = '+';
            for (int place = from; place < end; place++) {
                char sign = signAt(place);
                if (isBetween(sign, '0', '9') && digits < MOST_DIGITS) {
                    number = number * 10 + (sign - '0');
                    digits++;
                } else if ((sign == '+' || sign == '-' || sign == '*') && digits > 0) {
                    amount = reckoned(amount, step, number);
                    step = sign;
                    number = 0;
                    digits = 0;
                } else if (sign != ' ') {
                    return NO_AMOUNT;
                }
            }
            return digits > 0 ? reckoned(amount, step, number) : NO_AMOUNT;
        }

        private static int reckoned(int amount, char step, int number) {
            int next = step == '+' ? amount + number
                    : step == '-' ? amount - number : amount * number;
            return Math.max(-FURTHEST, Math.min(FURTHEST, next));
        }
    }

    /** A text that is being expanded, with the arguments of its call. */
    private static final class Frame {

        private final int level;
        private Text text = new Text(0);
        private int firstArgument;
        private int argumentCount;

        Frame(int level) {
            this.level = level;
        }
    }

    /** Expands pages; places from, end and so on are places of the text of a frame. */
    private static final class Expansion {

        private static final int LEVELS = MOST_CALLS_OPEN + 1;
        private static final int DEEPEST = LEVELS * (MOST_OPEN + 1);
        private static final int MOST_ARGUMENTS = LEVELS * MOST_SIGNS;

        private final Page[] pages;
        private final Sheet sheet = new Sheet();
        private final Frame[] frames = new Frame[LEVELS];
        private final int[] argumentFrom = new int[MOST_ARGUMENTS];
        private final int[] argumentEnd = new int[MOST_ARGUMENTS];
        private int arguments;
        private int textsShown;
        private int beingExpanded;
        private int tick;
        private int stands;
        private int links;
        private int labels;
        private boolean isShortLived;

        Expansion(Page[] pages) {
            this.pages = pages;
            for (int level = 0; level < LEVELS; level++) {
                frames[level] = new Frame(level);
            }
        }

        void expand(int page, int now, Kept kept) {
            if (!isPage(page)) {
                return;
            }
            begin(now);
            Text text = pages[page].current();
            int target = text.target();
            if (target == NONE) {
                showText(0, page, 0, 0);
            } else {
                links = bit(target);
                sheet.putFrom(text, 0, text.length());
            }
            keep(kept);
        }

        private void begin(int now) {
            sheet.begin();
            arguments = 0;
            textsShown = 0;
            beingExpanded = 0;
            tick = now;
            stands = 0;
            links = 0;
            labels = 0;
            isShortLived = false;
        }

        private void keep(Kept kept) {
            kept.signs.clear();
            for (int place = 0; place < sheet.length() && place < MOST_SHOWN; place++) {
                kept.signs.add(sheet.signAt(place));
            }
            kept.stands = stands;
            kept.links = links;
            kept.labels = labels;
            kept.isShortLived = isShortLived;
        }

        private void showText(int level, int page, int firstArgument, int depth) {
            if (level < 0 || level >= LEVELS || !isPage(page)) {
                return;
            }
            Frame frame = frames[level];
            frame.text = pages[page].current();
            frame.firstArgument = firstArgument;
            frame.argumentCount = arguments - firstArgument;
            beingExpanded |= bit(page);
            showPieces(frame, 0, frame.text.length(), depth);
            beingExpanded &= ~bit(page);
        }

        private void showPieces(Frame frame, int from, int end, int depth) {
            if (depth > DEEPEST) {
                return;
            }
            Text text = frame.text;
            int place = from;
            for (int piece = 0; piece < MOST_SIGNS && place < end; piece++) {
                int behind = text.behindPiece(place);
                char sign = text.signAt(place);
                if (sign == '{') {
                    showCall(frame, place + 1, behind - 1, depth);
                } else if (sign == '[') {
                    showLink(frame, place + 1, behind - 1, depth);
                } else if (sign == '\'') {
                    sheet.putFrom(text, place + 1, behind - 1);
                } else if (sign != '<' && sign != '(') {
                    sheet.put(sign);
                } else if ((sign == '<') == (frame.level > 0)) {
                    showPieces(frame, place + 1, behind - 1, depth + 1);
                }
                place = behind;
            }
        }

        private void showLink(Frame frame, int from, int end, int depth) {
            char letter = frame.text.signAt(from);
            if (letter == '#') {
                labels |= bit(frame.text.signAt(from + 1) - 'a');
                return;
            }
            links |= bit(letter - 'a');
            if (from + 1 < end) {
                showPieces(frame, from + 2, end, depth + 1);
            } else {
                sheet.put(letter);
            }
        }

        private void showCall(Frame frame, int from, int end, int depth) {
            char head = frame.text.signAt(from);
            switch (head) {
                case '?':
                    showIfAny(frame, from + 1, end, depth);
                    break;
                case '=':
                    showIfAlike(frame, from + 1, end, depth);
                    break;
                case '#':
                    showCase(frame, from + 1, end, depth);
                    break;
                case '+':
                    showSum(frame, from + 1, end, depth);
                    break;
                case '@':
                    isShortLived = true;
                    sheet.putNumber(tick);
                    break;
                default:
                    if (isBetween(head, '0', '9')) {
                        showArgument(frame, from, end, depth);
                    } else {
                        callPage(frame, from, end, depth);
                    }
            }
        }

        private void callPage(Frame frame, int from, int end, int depth) {
            int firstArgument = arguments;
            int argumentsBegin = sheet.length();
            int bar = from + 1;
            for (int number = 0; number < MOST_SIGNS && bar < end; number++) {
                int behind = frame.text.ownPlace('|', bar + 1, end);
                int begin = sheet.length();
                showPieces(frame, bar + 1, behind, depth + 1);
                addArgument(begin, sheet.length());
                bar = behind;
            }
            int argumentsEnd = sheet.length();
            showCalled(frame.level, frame.text.signAt(from), firstArgument, depth);
            sheet.dropBetween(argumentsBegin, argumentsEnd);
            arguments = firstArgument;
        }

        private void addArgument(int from, int end) {
            if (arguments < MOST_ARGUMENTS) {
                argumentFrom[arguments] = from;
                argumentEnd[arguments] = end;
                arguments++;
            }
        }

        private void showCalled(int level, char letter, int firstArgument, int depth) {
            int found = findAsked(letter - 'a');
            if (!isPage(found)) {
                sheet.put(letter);
            } else if ((beingExpanded & bit(found)) != 0 || level >= MOST_CALLS_OPEN
                    || textsShown >= MOST_TEXTS) {
                sheet.put('!');
            } else {
                textsShown++;
                showText(level + 1, found, firstArgument, depth + 1);
            }
        }

        /** The page whose text a call shows, behind one redirect at most; NONE if there is none. */
        private int findAsked(int named) {
            if (!isPage(named)) {
                return NONE;
            }
            stands |= bit(named);
            int target = pages[named].current().target();
            if (!isPage(target)) {
                return pages[named].count() > 0 ? named : NONE;
            }
            stands |= bit(target);
            boolean hasOwnText = pages[target].count() > 0
                    && pages[target].current().target() == NONE;
            return hasOwnText ? target : NONE;
        }

        private void showArgument(Frame frame, int from, int end, int depth) {
            int number = frame.text.signAt(from) - '0';
            int at = frame.firstArgument + number;
            if (number < frame.argumentCount && at >= 0 && at < MOST_ARGUMENTS) {
                sheet.putAgain(argumentFrom[at], argumentEnd[at]);
            } else if (from + 1 < end) {
                showPieces(frame, from + 2, end, depth + 1);
            }
        }

        private void showIfAny(Frame frame, int from, int end, int depth) {
            int bar = frame.text.ownPlace('|', from, end);
            int begin = sheet.length();
            showPieces(frame, from, bar, depth + 1);
            boolean isAny = sheet.hasMoreThanBlanks(begin, sheet.length());
            sheet.cut(begin);
            showOneOfTwo(isAny, frame, bar + 1, end, depth);
        }

        private void showIfAlike(Frame frame, int from, int end, int depth) {
            int bar = frame.text.ownPlace('|', from, end);
            int secondBar = frame.text.ownPlace('|', bar + 1, end);
            int begin = sheet.length();
            showPieces(frame, from, bar, depth + 1);
            int middle = sheet.length();
            showPieces(frame, bar + 1, secondBar, depth + 1);
            boolean areAlike = sheet.areAlike(begin, middle, sheet.length());
            sheet.cut(begin);
            showOneOfTwo(areAlike, frame, secondBar + 1, end, depth);
        }

        private void showOneOfTwo(boolean isFirst, Frame frame, int from, int end, int depth) {
            int bar = frame.text.ownPlace('|', from, end);
            if (isFirst) {
                showPieces(frame, from, bar, depth + 1);
            } else {
                showPieces(frame, bar + 1, end, depth + 1);
            }
        }

        private void showCase(Frame frame, int from, int end, int depth) {
            Text text = frame.text;
            int bar = text.ownPlace('|', from, end);
            int begin = sheet.length();
            showPieces(frame, from, bar, depth + 1);
            int taken = takenCase(frame, begin, bar + 1, end, depth);
            sheet.cut(begin);
            if (taken != NONE) {
                int value = text.valueFrom(taken, end);
                showPieces(frame, value, text.ownPlace('|', value, end), depth + 1);
                return;
            }
            int last = text.lastCase(bar + 1, end);
            if (text.ownPlace('=', last, end) == end) {
                showPieces(frame, last, end, depth + 1);
            }
        }

        /** Where the case begins whose key is as the argument, which was put last; or NONE. */
        private int takenCase(Frame frame, int begin, int firstCase, int end, int depth) {
            int middle = sheet.length();
            int from = firstCase;
            for (int tried = 0; tried < MOST_SIGNS && from <= end; tried++) {
                int behind = frame.text.ownPlace('|', from, end);
                showPieces(frame, from, frame.text.ownPlace('=', from, behind), depth + 1);
                boolean isTaken = sheet.areAlike(begin, middle, sheet.length());
                sheet.cut(middle);
                if (isTaken) {
                    return from;
                }
                from = behind + 1;
            }
            return NONE;
        }

        private void showSum(Frame frame, int from, int end, int depth) {
            int begin = sheet.length();
            showPieces(frame, from, end, depth + 1);
            int amount = sheet.amountOf(begin, sheet.length());
            sheet.cut(begin);
            if (amount == Sheet.NO_AMOUNT) {
                sheet.put('!');
            } else {
                sheet.putNumber(amount);
            }
        }
    }
}
