/** A wiki with calls for whole texts, as a user of rank 2 would write them. */
final class Desk {

    static final int EDITOR = 3;

    final Wikiwright wiki = new Wikiwright();

    Desk() {
        wiki.rank(EDITOR, 2);
    }

    static int page(char letter) {
        return letter - 'a';
    }

    static int bits(String letters) {
        int bits = 0;
        for (char letter : letters.toCharArray()) {
            bits |= 1 << letter - 'a';
        }
        return bits;
    }

    void tape(String signs) {
        wiki.wipe();
        for (char sign : signs.toCharArray()) {
            wiki.type(sign);
        }
    }

    int fault(String signs) {
        tape(signs);
        return wiki.fault();
    }

    /** Saves a text behind the last one of a page. */
    int put(char letter, String text) {
        return putBy(EDITOR, letter, text);
    }

    int putBy(int user, char letter, String text) {
        tape(text);
        return wiki.save(user, page(letter), wiki.revisions(page(letter)) - 1);
    }

    int putOn(char letter, int base, String text) {
        tape(text);
        return wiki.save(EDITOR, page(letter), base);
    }

    String shown(char letter) {
        StringBuilder signs = new StringBuilder();
        for (int place = 0; place < wiki.size(page(letter)); place++) {
            signs.append((char) wiki.shown(page(letter), place));
        }
        return signs.toString();
    }

    String shownAnew(char letter) {
        StringBuilder signs = new StringBuilder();
        for (int place = 0; wiki.shownAnew(page(letter), place) != Wikiwright.NONE; place++) {
            signs.append((char) wiki.shownAnew(page(letter), place));
        }
        return signs.toString();
    }

    /** What a text shows on a page of its own. */
    String shows(char letter, String text) {
        put(letter, text);
        return shown(letter);
    }

    String text(char letter, int revision) {
        StringBuilder signs = new StringBuilder();
        int length = 0;
        while (wiki.text(EDITOR, page(letter), revision, length) != length) {
            signs.append((char) wiki.text(EDITOR, page(letter), revision, length));
            length++;
        }
        return signs.toString();
    }

    String lastText(char letter) {
        return text(letter, wiki.revisions(page(letter)) - 1);
    }

    int stands(char letter) {
        return wiki.stands(page(letter));
    }

    int links(char letter) {
        return wiki.links(page(letter));
    }

    int labels(char letter) {
        return wiki.labels(page(letter));
    }

    boolean isFresh(char letter) {
        return wiki.isFresh(page(letter));
    }
}
