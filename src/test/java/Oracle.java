import java.util.ArrayList;
import java.util.LinkedHashSet;
import java.util.List;
import java.util.Objects;
import java.util.Set;

/**
 * The document once more, written from trees and Strings instead of rows of signs, so that
 * random runs can be compared with it.
 */
final class Oracle {

    // ---- the grammar

    /** Thrown at the place of a fault. */
    static final class Fault extends RuntimeException {
        final int place;

        Fault(int place) {
            this.place = place;
        }
    }

    /** A piece: its head, its parts (null where there is none) and what it is plainly. */
    static final class Piece {
        final String kind;
        final String plain;
        final List<List<Piece>> parts = new ArrayList<>();

        Piece(String kind, String plain) {
            this.kind = kind;
            this.plain = plain;
        }
    }

    static final class Parser {
        private final String text;
        private int at;
        private int depth;

        Parser(String text) {
            this.text = text;
        }

        /** The pieces of a text; null for a redirect. */
        List<Piece> parse() {
            if (text.startsWith(">")) {
                at = 1;
                next("abcdefghijkl");
                if (at < text.length()) {
                    throw new Fault(at);
                }
                return null;
            }
            List<Piece> pieces = pieces("");
            if (at < text.length()) {
                throw new Fault(at);
            }
            return pieces;
        }

        private char next(String allowed) {
            if (at >= text.length() || allowed.indexOf(text.charAt(at)) < 0) {
                throw new Fault(at);
            }
            return text.charAt(at++);
        }

        private boolean sees(char sign) {
            return at < text.length() && text.charAt(at) == sign;
        }

        private List<Piece> pieces(String ends) {
            List<Piece> pieces = new ArrayList<>();
            while (at < text.length() && ends.indexOf(text.charAt(at)) < 0) {
                pieces.add(piece());
            }
            if (!ends.isEmpty() && at >= text.length()) {
                throw new Fault(at);
            }
            return pieces;
        }

        private Piece piece() {
            char sign = text.charAt(at);
            if ("{[<(".indexOf(sign) < 0) {
                return sign == '\'' ? kept()
                        : new Piece("plain", "" + next("abcdefghijklmnopqrstuvwxyz0123456789 .,;:-!/+*="));
            }
            if (depth == 8) {
                throw new Fault(at);
            }
            depth++;
            at++;
            Piece piece = sign == '{' ? call() : sign == '[' ? bracket()
                    : part(sign == '<' ? "others" : "itself", sign == '<' ? ">" : ")");
            depth--;
            return piece;
        }

        private Piece kept() {
            int end = text.indexOf('\'', at + 1);
            if (end < 0) {
                throw new Fault(text.length());
            }
            Piece piece = new Piece("kept", text.substring(at + 1, end));
            at = end + 1;
            return piece;
        }

        private Piece part(String kind, String end) {
            Piece piece = new Piece(kind, "");
            piece.parts.add(pieces(end));
            next(end);
            return piece;
        }

        private Piece bracket() {
            char head = next("abcdefghijkl#");
            if (head == '#') {
                Piece label = new Piece("label", "" + next("abcdefghijklmnopqrstuvwxyz"));
                next("]");
                return label;
            }
            return barred(new Piece("link", "" + head), 0, 1, "]");
        }

        private Piece call() {
            char head = next("abcdefghijkl0123456789?=#+@");
            switch (head) {
                case '?': return argued("any", 1, 2);
                case '=': return argued("alike", 2, 3);
                case '#': return argued("cases", 1, 99);
                case '+': return argued("sum", 0, 0);
                case '@': next("}"); return new Piece("time", "");
                default:
                    boolean isDigit = head >= '0' && head <= '9';
                    return barred(new Piece(isDigit ? "digit" : "page", "" + head), 0,
                            isDigit ? 1 : 99, "}");
            }
        }

        private Piece argued(String kind, int least, int most) {
            Piece piece = new Piece(kind, "");
            piece.parts.add(pieces(most > 0 ? "|}" : "}"));
            return barred(piece, least, most, "}");
        }

        private Piece barred(Piece piece, int least, int most, String end) {
            int bars = 0;
            while (true) {
                boolean mayBar = bars < most;
                if (mayBar && sees('|')) {
                    at++;
                    bars++;
                    String ends = (bars < most ? "|" : "") + (bars >= least ? end : "");
                    piece.parts.add(pieces(ends));
                } else {
                    next(bars >= least ? end : "");
                    return piece;
                }
            }
        }
    }

    static int faultOf(String text) {
        try {
            new Parser(text).parse();
            return -1;
        } catch (Fault fault) {
            return fault.place;
        }
    }

    // ---- expansion

    static final class View {
        String signs = "";
        int stands;
        int links;
        int labels;
        boolean isShort;

        boolean isAs(View other) {
            return signs.equals(other.signs) && stands == other.stands && links == other.links
                    && labels == other.labels && isShort == other.isShort;
        }
    }

    private final class Expander {
        final View view = new View();
        private int put;
        private int calls;

        private String emit(String signs) {
            int room = Math.min(signs.length(), 1000 - put);
            unput += room < signs.length() ? 1 : 0;
            put += room;
            return signs.substring(0, room);
        }

        String all(List<Piece> pieces, List<String> arguments, List<Integer> open) {
            StringBuilder signs = new StringBuilder();
            for (Piece piece : pieces) {
                signs.append(one(piece, arguments, open));
            }
            return signs.toString();
        }

        private String one(Piece piece, List<String> arguments, List<Integer> open) {
            List<List<Piece>> parts = piece.parts;
            boolean isCalled = open.size() > 1;
            switch (piece.kind) {
                case "plain":
                case "kept": return emit(piece.plain);
                case "label": view.labels |= 1 << piece.plain.charAt(0) - 'a'; return "";
                case "others": return isCalled ? all(parts.get(0), arguments, open) : "";
                case "itself": return isCalled ? "" : all(parts.get(0), arguments, open);
                case "time": view.isShort = true; return emit("" + tick);
                case "page": return page(piece, arguments, open);
                case "cases": return cases(parts, arguments, open);
                case "sum": return emit(sum(all(parts.get(0), arguments, open).replace(" ", "")));
                case "link":
                    view.links |= 1 << piece.plain.charAt(0) - 'a';
                    return parts.isEmpty() ? emit(piece.plain) : all(parts.get(0), arguments, open);
                case "digit":
                    int number = piece.plain.charAt(0) - '0';
                    if (number < arguments.size()) {
                        return emit(arguments.get(number));
                    }
                    return parts.isEmpty() ? "" : all(parts.get(0), arguments, open);
                case "any":
                    boolean isAny = !all(parts.get(0), arguments, open).isBlank();
                    return pick(parts, isAny ? 1 : 2, arguments, open);
                case "alike":
                    String first = all(parts.get(0), arguments, open).strip();
                    String second = all(parts.get(1), arguments, open).strip();
                    return pick(parts, first.equals(second) ? 2 : 3, arguments, open);
                default: throw new IllegalStateException(piece.kind);
            }
        }

        private String pick(List<List<Piece>> parts, int at, List<String> arguments,
                List<Integer> open) {
            return at < parts.size() ? all(parts.get(at), arguments, open) : "";
        }

        private String page(Piece piece, List<String> outer, List<Integer> open) {
            List<String> arguments = new ArrayList<>();
            for (List<Piece> part : piece.parts) {
                arguments.add(all(part, outer, open));
            }
            int found = piece.plain.charAt(0) - 'a';
            view.stands |= 1 << found;
            String text = textOf(found);
            if (text != null && text.startsWith(">")) {
                found = text.charAt(1) - 'a';
                view.stands |= 1 << found;
                text = textOf(found);
                if (text != null && text.startsWith(">")) {
                    text = null;
                }
            }
            if (text == null) {
                return emit(piece.plain);
            }
            if (open.contains(found) || open.size() == 6 || calls == 60) {
                tooDeep += open.contains(found) || calls == 60 ? 0 : 1;
                tooMany += open.contains(found) || open.size() == 6 ? 0 : 1;
                return emit("!");
            }
            calls++;
            List<Integer> deeper = new ArrayList<>(open);
            deeper.add(found);
            return all(new Parser(text).parse(), arguments, deeper);
        }

        private String cases(List<List<Piece>> parts, List<String> arguments, List<Integer> open) {
            String sought = all(parts.get(0), arguments, open).strip();
            int taken = -1;
            for (int at = 1; at < parts.size() && taken < 0; at++) {
                List<Piece> part = parts.get(at);
                int parting = parting(part);
                List<Piece> key = parting < 0 ? part : part.subList(0, parting);
                if (all(key, arguments, open).strip().equals(sought)) {
                    taken = at;
                }
            }
            if (taken < 0) {
                List<Piece> last = parts.get(parts.size() - 1);
                return parting(last) < 0 ? all(last, arguments, open) : "";
            }
            for (int at = taken; at < parts.size(); at++) {
                List<Piece> part = parts.get(at);
                int parting = parting(part);
                if (parting >= 0) {
                    return all(part.subList(parting + 1, part.size()), arguments, open);
                }
            }
            return "";
        }

        private int parting(List<Piece> part) {
            for (int at = 0; at < part.size(); at++) {
                if (part.get(at).kind.equals("plain") && part.get(at).plain.equals("=")) {
                    return at;
                }
            }
            return -1;
        }

        private String sum(String row) {
            if (!row.matches("[0-9]{1,3}([-+*][0-9]{1,3})*")) {
                return "!";
            }
            String[] numbers = row.split("[-+*]");
            String steps = row.replaceAll("[0-9]", "");
            int amount = Integer.parseInt(numbers[0]);
            for (int at = 0; at < steps.length(); at++) {
                int number = Integer.parseInt(numbers[at + 1]);
                char step = steps.charAt(at);
                amount = step == '+' ? amount + number
                        : step == '-' ? amount - number : amount * number;
                amount = amount > 9999 ? 9999 : amount < -9999 ? -9999 : amount;
            }
            return "" + amount;
        }
    }

    private View viewOf(int page) {
        Expander expander = new Expander();
        String text = textOf(page);
        if (text == null) {
            return expander.view;
        }
        if (text.startsWith(">")) {
            expander.view.links = 1 << text.charAt(1) - 'a';
            expander.view.signs = text;
            return expander.view;
        }
        String signs = expander.all(new Parser(text).parse(), List.of(), List.of(page));
        expander.view.signs = signs.substring(0, Math.min(200, signs.length()));
        cut += signs.length() > 200 ? 1 : 0;
        return expander.view;
    }

    // ---- the wiki

    static final class Rev {
        final String text;
        final int by;
        boolean isHidden;

        Rev(String text, int by) {
            this.text = text;
            this.by = by;
        }
    }

    private String tape = "";
    private final List<List<Rev>> revs = new ArrayList<>();
    private final View[] views = new View[12];
    private final Set<Integer> queue = new LinkedHashSet<>();
    private final int[] protections = new int[12];
    private final boolean[] cascading = new boolean[12];
    private final int[] ranks = new int[4];
    private final boolean[][] watching = new boolean[4][12];
    private final int[] unseen = new int[4];
    private int tick;

    /** How often a limit alone was in the way: 5 calls open, 60 calls, 1000 signs, 200 signs. */
    int tooDeep;
    int tooMany;
    int unput;
    int cut;

    Oracle() {
        for (int page = 0; page < 12; page++) {
            revs.add(new ArrayList<>());
            views[page] = new View();
        }
    }

    private String textOf(int page) {
        List<Rev> all = revs.get(page);
        return all.isEmpty() ? null : all.get(all.size() - 1).text;
    }

    private static void bound(boolean holds) {
        if (!holds) {
            throw new IndexOutOfBoundsException();
        }
    }

    private static void argue(boolean holds) {
        if (!holds) {
            throw new IllegalArgumentException();
        }
    }

    private static void state(boolean holds) {
        if (!holds) {
            throw new IllegalStateException();
        }
    }

    private static void user(int user) {
        bound(user >= 0 && user <= 3);
    }

    private static void page(int page) {
        bound(page >= 0 && page <= 11);
    }

    private void rev(int page, int revision) {
        bound(revision >= 0 && revision < revs.get(page).size());
    }

    int type(char sign) {
        argue(sign >= 32 && sign <= 126);
        state(tape.length() < 60);
        tape += sign;
        return tape.length();
    }

    int wipe() {
        int had = tape.length();
        tape = "";
        return had;
    }

    int fault() {
        return faultOf(tape);
    }

    private static String merge(String base, String one, String other) {
        if (one.equals(base)) {
            return other;
        }
        if (other.equals(base)) {
            return one;
        }
        String[] bases = base.split(";", -1);
        String[] ones = one.split(";", -1);
        String[] others = other.split(";", -1);
        if (bases.length != ones.length || bases.length != others.length) {
            return null;
        }
        List<String> lines = new ArrayList<>();
        for (int at = 0; at < bases.length; at++) {
            if (!ones[at].equals(bases[at]) && !others[at].equals(bases[at])
                    && !ones[at].equals(others[at])) {
                return null;
            }
            lines.add(ones[at].equals(bases[at]) ? others[at] : ones[at]);
        }
        String merged = String.join(";", lines);
        return merged.length() > 60 || faultOf(merged) >= 0 ? null : merged;
    }

    private int made(int page, String text, int by) {
        revs.get(page).add(new Rev(text, by));
        told(page, by);
        got(page);
        return revs.get(page).size() - 1;
    }

    private void told(int page, int by) {
        for (int user = 0; user < 4; user++) {
            if (watching[user][page] && user != by) {
                unseen[user]++;
            }
        }
    }

    private void got(int page) {
        views[page] = viewOf(page);
        for (int other = 0; other < 12; other++) {
            if (other != page && (views[other].stands >> page & 1) == 1) {
                queue.add(other);
            }
        }
    }

    int save(int user, int page, int base) {
        user(user);
        page(page);
        List<Rev> all = revs.get(page);
        bound(base == -1 && all.isEmpty() || base >= 0 && base < all.size());
        argue(fault() == -1);
        String text = base == all.size() - 1 ? tape
                : merge(all.get(base).text, tape, textOf(page));
        state(ranks[user] >= needs(page) && text != null && all.size() < 12);
        tape = "";
        return made(page, text, user);
    }

    int undo(int user, int page, int revision) {
        user(user);
        page(page);
        rev(page, revision);
        List<Rev> all = revs.get(page);
        String text = merge(all.get(revision).text, revision == 0 ? "" : all.get(revision - 1).text,
                textOf(page));
        state(ranks[user] >= needs(page) && text != null && all.size() < 12);
        return made(page, text, user);
    }

    int move(int user, int page, int to) {
        user(user);
        page(page);
        page(to);
        state(ranks[user] >= needs(page) && ranks[user] >= needs(to));
        state(!revs.get(page).isEmpty() && revs.get(to).isEmpty());
        revs.set(to, revs.get(page));
        revs.set(page, new ArrayList<>());
        revs.get(page).add(new Rev(">" + (char) ('a' + to), user));
        told(page, user);
        told(to, user);
        got(to);
        got(page);
        for (int other = 0; other < 12; other++) {
            if (Objects.equals(textOf(other), ">" + (char) ('a' + page))) {
                queue.add(other);
            }
        }
        return revs.get(to).size();
    }

    boolean hide(int user, int page, int revision) {
        user(user);
        page(page);
        rev(page, revision);
        state(ranks[user] == 2);
        Rev hidden = revs.get(page).get(revision);
        hidden.isHidden = !hidden.isHidden;
        return hidden.isHidden;
    }

    int revisions(int page) {
        page(page);
        return revs.get(page).size();
    }

    int author(int page, int revision) {
        page(page);
        rev(page, revision);
        return revs.get(page).get(revision).by;
    }

    int text(int user, int page, int revision, int place) {
        user(user);
        page(page);
        rev(page, revision);
        Rev told = revs.get(page).get(revision);
        state(!told.isHidden || ranks[user] == 2);
        int length = told.text.length();
        return place < 0 || place > length ? -1 : place == length ? length : told.text.charAt(place);
    }

    int differs(int page, int revision, int other) {
        page(page);
        rev(page, revision);
        rev(page, other);
        String[] one = revs.get(page).get(revision).text.split(";", -1);
        String[] two = revs.get(page).get(other).text.split(";", -1);
        int count = 0;
        for (int at = 0; at < Math.max(one.length, two.length); at++) {
            if (at >= one.length || at >= two.length || !one[at].equals(two[at])) {
                count++;
            }
        }
        return count;
    }

    int size(int page) {
        page(page);
        return views[page].signs.length();
    }

    int shown(int page, int place) {
        page(page);
        bound(place >= 0 && place < views[page].signs.length());
        return views[page].signs.charAt(place);
    }

    int shownAnew(int page, int place) {
        page(page);
        bound(place >= 0);
        String signs = viewOf(page).signs;
        return place < signs.length() ? signs.charAt(place) : -1;
    }

    boolean isFresh(int page) {
        page(page);
        return viewOf(page).isAs(views[page]);
    }

    int links(int page) {
        page(page);
        return views[page].links;
    }

    int linked(int page) {
        page(page);
        int found = 0;
        for (int other = 0; other < 12; other++) {
            found |= (views[other].links >> page & 1) << other;
        }
        return found;
    }

    int labels(int page) {
        page(page);
        return views[page].labels;
    }

    int stands(int page) {
        page(page);
        return views[page].stands;
    }

    int search() {
        state(!tape.isEmpty());
        int found = 0;
        for (int page = 0; page < 12; page++) {
            found |= (views[page].signs.contains(tape) ? 1 : 0) << page;
        }
        return found;
    }

    int waiting() {
        return queue.size();
    }

    int work(int jobs) {
        argue(jobs >= 1 && jobs <= 20);
        int worked = 0;
        while (worked < jobs && !queue.isEmpty()) {
            int page = queue.iterator().next();
            queue.remove(page);
            worked++;
            String text = textOf(page);
            String next = text != null && text.startsWith(">") ? textOf(text.charAt(1) - 'a') : null;
            if (next != null && next.startsWith(">") && !next.equals(text)
                    && next.charAt(1) - 'a' != page && revs.get(page).size() < 12) {
                made(page, next, -1);
            } else {
                views[page] = viewOf(page);
            }
        }
        return worked;
    }

    int pass(int ticks) {
        argue(ticks >= 1 && ticks <= 9);
        state(tick + ticks <= 999);
        for (int passed = 0; passed < ticks; passed++) {
            tick++;
            for (int page = 0; page < 12; page++) {
                if (views[page].isShort) {
                    queue.add(page);
                }
            }
        }
        return tick;
    }

    int rank(int user, int rank) {
        user(user);
        argue(rank >= 0 && rank <= 2);
        int before = ranks[user];
        ranks[user] = rank;
        return before;
    }

    int protect(int page, int protection, boolean cascades) {
        page(page);
        argue(protection >= 0 && protection <= 2);
        protections[page] = protection;
        cascading[page] = cascades;
        return needs(page);
    }

    int needs(int page) {
        page(page);
        int needs = protections[page];
        for (int other = 0; other < 12; other++) {
            if (cascading[other] && (views[other].stands >> page & 1) == 1) {
                needs = Math.max(needs, protections[other]);
            }
        }
        return needs;
    }

    boolean watch(int user, int page, boolean does) {
        user(user);
        page(page);
        boolean did = watching[user][page];
        watching[user][page] = does;
        return did;
    }

    int news(int user) {
        user(user);
        int had = unseen[user];
        unseen[user] = 0;
        return had;
    }
}
