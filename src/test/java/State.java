/** All that can be asked of a wiki, told in a row; asking changes the wiki. */
final class State {

    private final Wikiwright wiki;
    private final StringBuilder told = new StringBuilder();

    private State(Wikiwright wiki) {
        this.wiki = wiki;
    }

    static String of(Wikiwright wiki) {
        State state = new State(wiki);
        state.tellTape();
        state.tellUsers();
        state.tellPages();
        state.tellQueue();
        state.tellLast();
        return state.told.toString();
    }

    private void tell(String what, long answer) {
        told.append(what).append(' ').append(answer).append('\n');
    }

    private void tellOrThrow(String what, Checks.Call call) {
        try {
            tell(what, call.answer());
        } catch (RuntimeException thrown) {
            told.append(what).append(" throws ").append(thrown.getClass().getName()).append('\n');
        }
    }

    private void tellTape() {
        tell("fault", wiki.fault());
        tellOrThrow("search", wiki::search);
    }

    /** The ranks are 0 then, so that hidden revisions are seen to be hidden. */
    private void tellUsers() {
        for (int user = 0; user < 4; user++) {
            tell("rank", wiki.rank(user, 0));
            tell("news", wiki.news(user));
            for (int page = 0; page < 12; page++) {
                tell("watch", wiki.watch(user, page, true) ? 1 : 0);
            }
        }
    }

    private void tellPages() {
        for (int number = 0; number < 12; number++) {
            int page = number;
            tell("page", page);
            tell("size", wiki.size(page));
            for (int place = 0; place < wiki.size(page); place++) {
                tell("shown", wiki.shown(page, place));
            }
            for (int place = 0; wiki.shownAnew(page, place) != Wikiwright.NONE; place++) {
                tell("shownAnew", wiki.shownAnew(page, place));
            }
            tell("links", wiki.links(page));
            tell("linked", wiki.linked(page));
            tell("labels", wiki.labels(page));
            tell("stands", wiki.stands(page));
            tell("needs", wiki.needs(page));
            tellRevisions(page);
        }
    }

    private void tellRevisions(int page) {
        tell("revisions", wiki.revisions(page));
        for (int number = 0; number < wiki.revisions(page); number++) {
            int revision = number;
            tell("author", wiki.author(page, revision));
            wiki.rank(0, 0);
            tellOrThrow("is told", () -> wiki.text(0, page, revision, 0));
            wiki.rank(0, 2);
            for (int place = 0; wiki.text(0, page, revision, place) != place; place++) {
                tell("text", wiki.text(0, page, revision, place));
            }
        }
    }

    private void tellFreshness() {
        for (int page = 0; page < 12; page++) {
            tell("fresh", wiki.isFresh(page) ? 1 : 0);
        }
    }

    private void tellQueue() {
        tellFreshness();
        for (int job = 0; job < 40 && wiki.waiting() > 0; job++) {
            tell("waiting", wiki.waiting());
            tell("work", wiki.work(1));
            tellFreshness();
        }
    }

    private void tellLast() {
        tellOrThrow("pass", () -> wiki.pass(1));
        tell("short-lived", wiki.waiting());
        for (int user = 0; user < 4; user++) {
            tell("news by jobs", wiki.news(user));
        }
        tellOrThrow("the tape is saved", () -> wiki.save(0, 11, wiki.revisions(11) - 1));
        tellRevisions(11);
        tell("wipe", wiki.wipe());
    }
}
