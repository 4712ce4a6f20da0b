import java.util.function.ToIntBiFunction;

/** One test for each sentence of the sections "Promise 1" to "Promise 18" that names a boundary case. */
public final class BoundaryTest {
    // Among the numbers that are far off are some that are small ones if only their low bits are kept, or once multiplied.
    private static final int[] NO_POSTS = {-1, -24, 24, 25, 256, 65536, 1 << 30, Integer.MIN_VALUE, Integer.MAX_VALUE};
    private static final int[] NO_PLACES = {-1, -3, 3, 4, 256, 65536, 1 << 30, Integer.MIN_VALUE, Integer.MAX_VALUE};
    private static final int[] NO_UNITS = {0, -1, -6, 7, 8, 257, 65537, (1 << 30) + 1, Integer.MIN_VALUE,
            Integer.MAX_VALUE};
    private static final int[] NO_SEGMENTS = {-1, -3, 6, 7, 256, 65536, 1 << 30, Integer.MIN_VALUE, Integer.MAX_VALUE};
    private static final int[] NO_AUTHORS = {-1, 10, 11, 256, 65536, 1 << 30, Integer.MIN_VALUE, Integer.MAX_VALUE};

    public static void main(String[] args) {
        newObject();
        typeRefused();
        quoteRoom();
        quoteRefused();
        clear();
        length();
        postFromEmptyDraft();
        postRefusedByAuthor();
        postRefusedByWaiting();
        postRefusedByMade();
        writeFewer();
        writeWrongUnits();
        published();
        eraseRefused();
        packFewer();
        packWrongUnits();
        searchBound();
        searchFreePlace();
        searchMalformed();
        searchNoPlace();
        searchTooMany();
        nextNone();
        nextNoSearch();
        left();
        leftNoSearch();
        closeFrees();
        closeNoSearch();
        form();
        size();
        terms();
        postings();
        Due.end();
    }

    private static void newObject() {
        Due.sentence("Promise 1", "PostIndex(): An empty draft, no posts, no searches.");
        String nothing = "0 0 | -1 -1 -1 -1 | -1 -1 -1 -1 | -1 -1 -1 -1 | -1 -1 -1 -1 | -1 -1 -1 -1 | -1 -1 -1 -1 / -1 "
                + "/ -1 / -1";
        Index x = new Index();
        Due.same("state", x.state(), nothing);
        Due.same("search", x.x().search(), -1);
        Due.same("write", x.x().write(1), 0);
        Due.same("pack", x.x().pack(1), 0);
        Due.same("quote", x.x().quote(0), -1);
        Due.same("erase", x.x().erase(0), false);
        for (int place = 0; place < 3; place++) {
            Due.same("next", x.x().next(place), -1);
            Due.same("close", x.x().close(place), false);
        }
        // A second object knows nothing of the first one, nor the first one of the second.
        x.written(4, "a").searching("a").typed("abc");
        Index other = new Index();
        Due.same("state of a second object", other.state(), nothing);
        other.written("b").searching("b");
        Due.same("state of the first one", x.state().startsWith("3 4 | 1 6 1 4 | -1"), true);
        Due.same("hits of the first one", x.rest(0), "3 2 1 0");
    }

    private static void typeRefused() {
        Due.sentence("Promise 2", "true; false (refused) when it is not 32 .. 126 or 24 characters are there.");
        Index x = new Index();
        for (int count = 0; count < 24; count++) {
            Due.same("length", x.x().length(), count);
            for (char c : new char[] {31, 127, 0, 255, 65535}) {
                Due.same("type " + (int) c + " with room", x.x().type(c), false);
            }
            Due.same("type", x.x().type(count % 2 == 0 ? (char) 32 : (char) 126), true);
        }
        for (char c : new char[] {31, 32, 'a', 126, 127}) {
            Due.same("type " + (int) c + " on a full draft", x.x().type(c), false);
        }
        Due.same("length", x.x().length(), 24);
        Index all = new Index();
        for (char c = 0; c < 160; c++) {
            Due.same("type " + (int) c, all.x().type(c), c >= 32 && c <= 126);
            all.x().clear();
        }
    }

    private static void quoteRoom() {
        Due.sentence("Promise 3",
                "Appends the beginning of the text of a post to the draft, as much as there is room for, and answers "
                + "how many characters that was.");
        for (int before = 0; before <= 24; before++) {
            String typed = "xxxxxxxxxxxxxxxxxxxxxxx_".substring(24 - before);
            int due = Math.min(6, 24 - before);
            Index x = new Index().written("ab cde").typed(typed);
            Due.same("quote behind " + before, x.x().quote(0), due);
            Due.same("length", x.x().length(), before + due);
            Due.same("post", x.x().post(0, 0), 1);
            x.writeAll();
            String text = typed + "ab cde".substring(0, due);
            Index wholly = new Index().written("ab cde", text);
            Due.same("segment with '" + text + "'", x.segment(0), wholly.segment(0));
            for (String word : text.split(" ")) {
                Due.same("hits of " + word, x.hits(word), wholly.hits(word));
            }
        }
        Index empty = new Index().written("");
        Due.same("quote of an empty text", empty.x().quote(0), 0);
        Due.same("length", empty.x().length(), 0);
        Index full = new Index().written("abcdefghijklmnopqrstuvwx");
        Due.same("quote of 24 characters", full.x().quote(0), 24);
        Due.same("quote on a full draft", full.x().quote(0), 0);
        Due.same("length", full.x().length(), 24);
        Due.same("the quoted text as a query", full.x().search(), 0);
        Due.same("left", full.x().left(0), 1);
        Due.same("quote again", full.x().quote(0), 24);
        // Capitals and signs are quoted as they stand, so that the text can be a query or a post again.
        Index signs = new Index().written("\"A b\"|-c");
        Due.same("quote", signs.x().quote(0), 8);
        Due.same("search", signs.x().search(), 0);
        Due.same("hits", signs.rest(0), "0");
    }

    private static void quoteRefused() {
        Due.sentence("Promise 3", "-1 (refused) if the post is none, not published, not live, or erased.");
        Index x = new Index().typed("z");
        for (int post : NO_POSTS) {
            Due.same("quote " + post, x.x().quote(post), -1);
        }
        Due.same("none", x.x().quote(0), -1);
        x.x().clear();
        x.posted("ab").typed("z");
        Due.same("waiting", x.x().quote(0), -1);
        x.wrote(1);
        Due.same("indexed, not published", x.x().quote(0), -1);
        x.wrote(1);
        Due.same("published", x.x().quote(0), 2);
        Due.same("the next one is none", x.x().quote(1), -1);
        Due.same("erase", x.x().erase(0), true);
        Due.same("erased", x.x().quote(0), -1);
        Due.same("length", x.x().length(), 3);
        x.x().clear();
        x.written(11, "ab").posted("cd");
        Due.same("the oldest live one", x.x().quote(1), 2);
        x.wrote(1);
        for (int post = 0; post < 4; post++) {
            Due.same("not live", x.x().quote(post), -1);
        }
        Due.same("the oldest live one", x.x().quote(4), 2);
        Due.same("the newest one, in work", x.x().quote(12), -1);
        Due.same("length", x.x().length(), 4);
        x.x().clear();
        x.wrote(1).written(11, "ab");
        Due.same("the last one", x.x().quote(23), 2);
        Due.same("the oldest live one", x.x().quote(12), 2);
        Due.same("not live", x.x().quote(11), -1);
        for (int post : NO_POSTS) {
            Due.same("quote " + post, x.x().quote(post), -1);
        }
    }

    private static void clear() {
        Due.sentence("Promise 4", "Makes the draft empty.");
        Index x = new Index();
        x.x().clear();
        Due.same("an empty draft", x.x().length(), 0);
        x.typed("abcdefghijklmnopqrstuvwx");
        x.x().clear();
        Due.same("a full draft", x.x().length(), 0);
        x.typed("abcdefghijklmnopqrstuvwx");
        Due.same("there is room for 24 again, and no more", x.x().type('y'), false);
        x.x().clear();
        x.posted("b").writeAll();
        Due.same("nothing of the old text is left", x.x().terms(0) + " " + x.hits("b"), "1 0");
        x.searching("b").typed("c");
        x.x().clear();
        Due.same("a search goes on", x.x().left(0), 1);
    }

    private static void length() {
        Due.sentence("Promise 5", "The number of characters of the draft.");
        Index x = new Index();
        Due.same("none", x.x().length(), 0);
        for (int count = 1; count <= 24; count++) {
            x.typed(" ");
            Due.same("length", x.x().length(), count);
        }
        x.x().type('a');
        Due.same("the most", x.x().length(), 24);
    }

    private static void postFromEmptyDraft() {
        Due.sentence("Promise 6",
                "Makes the draft a post, which waits; the draft is empty then (it may be empty before).");
        Index x = new Index();
        Due.same("post of an empty draft", x.x().post(0, 0), 0);
        Due.same("length", x.x().length(), 0);
        Due.same("post of a full draft", x.post(0, 0, "abcdefghijklmnopqrstuvwx"), 1);
        Due.same("length", x.x().length(), 0);
        Due.same("post of an empty draft", x.x().post(0, 0), 2);
        Due.same("published", x.x().published(), 0);
        Due.same("units for the three", x.x().write(6), 4);
        Due.same("published", x.x().published(), 3);
        Due.same("hits", x.hits("abcdefghijklmnopqrstuvwx"), "1");
        Due.same("quote of an empty post", x.x().quote(2), 0);
        // The post keeps its text whatever the draft is then.
        Due.same("post", x.post(0, 0, "one"), 3);
        x.typed("two").writeAll();
        x.x().clear();
        Due.same("hits", x.hits("one"), "3");
        Due.same("hits", x.hits("two"), "");
    }

    private static void postRefusedByAuthor() {
        Due.sentence("Promise 6", "-1 (refused) if author is not 0 .. 9, ");
        Index x = new Index();
        for (int author : NO_AUTHORS) {
            Due.same("post by " + author, x.x().post(author, 0), -1);
        }
        int made = 0;
        for (int author = 0; author <= 9; author++) {
            Due.same("post by " + author, x.x().post(author, 0), made);
            made++;
            x.writeAll();
        }
    }

    private static void postRefusedByWaiting() {
        Due.sentence("Promise 6", "four posts are waiting, ");
        Index x = new Index();
        for (int number = 0; number < 4; number++) {
            Due.same("post", x.post(0, 0, "a"), number);
        }
        Due.same("with four waiting", x.x().post(0, 0), -1);
        x.wrote(1);
        Due.same("with one of the four in work", x.x().post(0, 0), -1);
        x.wrote(1);
        Due.same("with three waiting", x.x().post(0, 0), 4);
        Due.same("with four waiting", x.x().post(0, 0), -1);
        x.writeAll();
        for (int number = 5; number < 9; number++) {
            Due.same("post", x.x().post(0, 0), number);
        }
        Due.same("with four waiting", x.x().post(0, 0), -1);
    }

    private static void postRefusedByMade() {
        Due.sentence("Promise 6", "or 24 were made.");
        Index x = new Index().written(23, "");
        for (int author : NO_AUTHORS) {
            Due.same("refused ones don't count", x.x().post(author, 0), -1);
        }
        Due.same("the last one", x.x().post(0, 0), 23);
        Due.same("one more, with one waiting", x.x().post(0, 0), -1);
        x.writeAll();
        Due.same("one more, with none waiting", x.x().post(0, 0), -1);
        Due.same("published", x.x().published(), 24);
    }

    private static void writeFewer() {
        Due.sentence("Promise 7", "The writer does n units of work, or fewer, if no post is waiting any more.");
        for (int n = 1; n <= 6; n++) {
            Index x = new Index();
            Due.same("with none waiting", x.x().write(n), 0);
            x.posted("a", "b");
            Due.same("of four units", x.x().write(n), Math.min(n, 4));
            Due.same("the rest", x.x().write(6), 4 - Math.min(n, 4));
            Due.same("with none waiting", x.x().write(n), 0);
            x.posted("a b c d e", "");
            Due.same("of seven units", x.x().write(n), n);
            Due.same("the rest", x.x().write(6) + x.x().write(6), 7 - n);
            Due.same("published", x.x().published(), 4);
        }
        // Six units go over posts and over the beginning of a segment, and retire another one.
        Index x = new Index().written(11, "").posted("a", "b", "", "c");
        Due.same("write", x.x().write(6), 6);
        Due.same("published", x.x().published(), 14);
        Due.same("forms", x.x().form(0) + " " + x.x().form(2) + " " + x.x().form(3), "4 1 0");
        Due.same("terms", x.x().terms(2) + " " + x.x().terms(3), "1 2");
        Due.same("the rest", x.x().write(6), 1);
    }

    private static void writeWrongUnits() {
        Due.sentence("Promise 7", "Answers how many; 0 if n is not 1 .. 6.");
        Index x = new Index().posted("a b c d e f g");
        for (int n : NO_UNITS) {
            Due.same("write " + n, x.x().write(n), 0);
            Due.same("nothing was done", x.segment(0), "-1 -1 -1 -1");
        }
        Due.same("write 6", x.x().write(6), 6);
        Due.same("terms", x.x().terms(0), 6);
        for (int n : NO_UNITS) {
            Due.same("write " + n, x.x().write(n), 0);
            Due.same("nothing was done", x.segment(0), "0 12 6 6");
        }
        Due.same("write 1", x.x().write(1), 1);
        Due.same("terms", x.x().terms(0), 7);
    }

    private static void published() {
        Due.sentence("Promise 8", "How many posts were published.");
        Index x = new Index();
        Due.same("none", x.x().published(), 0);
        for (int count = 1; count <= 24; count++) {
            x.posted("a");
            Due.same("a waiting one doesn't count", x.x().published(), count - 1);
            x.wrote(1);
            Due.same("an indexed one doesn't count", x.x().published(), count - 1);
            x.wrote(1);
            Due.same("published", x.x().published(), count);
            x.x().erase(count - 1);
        }
        Due.same("erased and retired ones count", x.x().published(), 24);
    }

    private static void eraseRefused() {
        Due.sentence("Promise 9", "true; false (refused) if it is none, not published, not live, or erased already.");
        Index x = new Index();
        for (int post : NO_POSTS) {
            Due.same("erase " + post, x.x().erase(post), false);
        }
        Due.same("none", x.x().erase(0), false);
        x.posted("a");
        Due.same("waiting", x.x().erase(0), false);
        x.wrote(1);
        Due.same("indexed, not published", x.x().erase(0), false);
        x.wrote(1);
        Due.same("the next one is none", x.x().erase(1), false);
        Due.same("published", x.x().erase(0), true);
        Due.same("erased already", x.x().erase(0), false);
        Due.same("hits", x.hits("a|-a"), "");
        x.written(11, "a").posted("a");
        Due.same("the oldest segment's last one, still live", x.x().erase(3), true);
        Due.same("a waiting one", x.x().erase(12), false);
        x.wrote(1);
        for (int post = 0; post < 4; post++) {
            Due.same("not live", x.x().erase(post), false);
        }
        Due.same("one in work", x.x().erase(12), false);
        Due.same("the oldest live one", x.x().erase(4), true);
        Due.same("in a packed segment", x.packAll().x().erase(7), true);
        Due.same("hits", x.hits("a"), "11 10 9 8 6 5");
        x.wrote(1).written(11, "a");
        Due.same("the last one", x.x().erase(23), true);
        Due.same("the last one again", x.x().erase(23), false);
        Due.same("not live", x.x().erase(11), false);
        for (int post : NO_POSTS) {
            Due.same("erase " + post, x.x().erase(post), false);
        }
        Due.same("hits", x.hits("a"), "22 21 20 19 18 17 16 15 14 13 12");
    }

    private static void packFewer() {
        Due.sentence("Promise 10",
                "The second worker does n units of work, or fewer, if there is no segment for it any more.");
        for (int n = 1; n <= 6; n++) {
            Index x = new Index();
            Due.same("with no segment", x.x().pack(n), 0);
            x.written("a", "b", "a");
            Due.same("with a segment that is not full", x.x().pack(n), 0);
            x.written("c");
            Due.same("of four units", x.x().pack(n), Math.min(n, 4));
            Due.same("the rest", x.x().pack(6), 4 - Math.min(n, 4));
            Due.same("form", x.x().form(0), 3);
            Due.same("with every segment packed", x.x().pack(n), 0);
            x.written("a", "b", "c", "d").written(4, "e");
            Due.same("of seven units in two segments", x.x().pack(n), n);
            Due.same("the rest", x.x().pack(6) + x.x().pack(6), 7 - n);
            Due.same("forms", x.x().form(1) + " " + x.x().form(2), "3 3");
        }
    }

    private static void packWrongUnits() {
        Due.sentence("Promise 10", "Answers how many; 0 if n is not 1 .. 6.");
        Index x = new Index().written("a b", "c d", "e f", "g h");
        for (int n : NO_UNITS) {
            Due.same("pack " + n, x.x().pack(n), 0);
            Due.same("form", x.x().form(0), 1);
        }
        Due.same("pack 6", x.x().pack(6), 6);
        for (int n : NO_UNITS) {
            Due.same("pack " + n, x.x().pack(n), 0);
        }
        x.packed(2);
        Due.same("form", x.x().form(0), 2);
        x.packed(1);
        Due.same("form", x.x().form(0), 3);
    }

    private static void searchBound() {
        Due.sentence("Promise 11", "Begins a search with the draft as its query and published() as its bound");
        Index x = new Index().posted("a");
        x.searching("a|-a");
        x.wrote(1);
        x.searching("a|-a");
        x.wrote(1);
        x.searching("a|-a");
        Due.same("bound 0, the post waiting", x.x().left(0), 0);
        Due.same("bound 0, the post in work", x.x().left(1), 0);
        Due.same("bound 1", x.x().left(2), 1);
        Due.same("next", x.x().next(0) + " " + x.x().next(1) + " " + x.x().next(2), "-1 -1 0");
        x = new Index().written(24, "a").searching("a");
        Due.same("bound 24", x.x().next(0), 23);
        // The query is kept, whatever becomes of the draft.
        x = new Index().written("a", "b").searching("a").typed("b");
        Due.same("left", x.x().left(0), 1);
        Due.same("next", x.x().next(0), 0);
    }

    private static void searchFreePlace() {
        Due.sentence("Promise 11",
                "in the free place with the least number, and answers that; the draft is empty then.");
        for (int free = 0; free < 8; free++) {
            Index x = new Index().written("a").searching("b").searching("b").searching("b");
            for (int place = 0; place < 3; place++) {
                if ((free >> place & 1) == 1) {
                    Due.same("close", x.x().close(place), true);
                }
            }
            int least = free == 0 ? -2 : Integer.numberOfTrailingZeros(free);
            Due.same("search with free places " + Integer.toBinaryString(free), x.begin("a"), least);
            Due.same("length", x.x().length(), free == 0 ? 1 : 0);
            for (int place = 0; place < 3; place++) {
                int due = place == least ? 1 : (free >> place & 1) == 1 ? -1 : 0;
                Due.same("left in place " + place, x.x().left(place), due);
            }
        }
    }

    private static void searchMalformed() {
        Due.sentence("Promise 11", "-1 (refused) if the draft is malformed; ");
        Index x = new Index();
        for (String bad : new String[] {"", "a|", "(a", "=", "a,b"}) {
            Due.same("a free place", x.typed(bad).x().search(), -1);
            Due.same("length", x.x().length(), bad.length());
            x.x().clear();
        }
        x.searching("a").searching("a").searching("a");
        Due.same("no free place", x.typed("a|").x().search(), -1);
        x.x().clear();
        for (int number = 3; number < 24; number++) {
            x.x().close(1);
            x.searching("a");
        }
        Due.same("no free place and 24 begun", x.typed("a|").x().search(), -1);
        x.x().close(0);
        Due.same("a free place and 24 begun", x.x().search(), -1);
        x.typed("a");
        Due.same("well-formed now", x.x().search(), -2);
    }

    private static void searchNoPlace() {
        Due.sentence("Promise 11", "otherwise -2 (refused) if no place is free ");
        Index x = new Index().searching("a").searching("a").searching("a").typed("b");
        Due.same("no free place", x.x().search(), -2);
        Due.same("no free place", x.x().search(), -2);
        Due.same("length", x.x().length(), 1);
        x.x().close(2);
        Due.same("a free place", x.x().search(), 2);
    }

    private static void searchTooMany() {
        Due.sentence("Promise 11", "or 24 searches were begun.");
        Index x = new Index().searching("a").searching("a").searching("a").typed("a");
        for (int i = 0; i < 30; i++) {
            Due.same("refused ones don't count", x.x().search(), -2);
        }
        x.x().clear();
        for (int number = 3; number < 24; number++) {
            Due.same("close", x.x().close(number % 3), true);
            Due.same("search " + number, x.begin("a"), number % 3);
        }
        Due.same("close", x.x().close(0), true);
        Due.same("search 24", x.begin("a"), -2);
        Due.same("length", x.x().length(), 1);
        Due.same("the place stays free", x.x().left(0), -1);
        Due.same("the others stay", x.x().left(1) + " " + x.x().left(2), "0 0");
    }

    private static void nextNone() {
        Due.sentence("Promise 12", "its number becomes the search's bound. -1 if there is none (the bound stays), ");
        Index x = new Index();
        x.searching("a");
        Due.same("no post", x.x().next(0), -1);
        x.written("a", "b");
        Due.same("the bound stays 0", x.x().next(0), -1);
        x.searching("a");
        x.searching("z");
        Due.same("none matches", x.x().next(2), -1);
        x.written("a", "z");
        Due.same("the bound stays 2", x.x().next(2), -1);
        Due.same("the bound is 2", x.x().left(1), 1);
        Due.same("next", x.x().next(1), 0);
        Due.same("the bound is 0", x.x().left(1), 0);
        Due.same("next", x.x().next(1), -1);
        Due.same("next", x.x().next(1), -1);
        x.written("a");
        Due.same("next", x.x().next(1), -1);
        Index one = new Index().written("a", "a").searching("a");
        Due.same("next", one.x().next(0), 1);
        one.x().erase(0);
        Due.same("the last one was erased", one.x().next(0), -1);
    }

    private static void nextNoSearch() {
        Due.sentence("Promise 12", "or no such place, or no search in it.");
        Index x = new Index().written("a");
        for (int place = 0; place < 3; place++) {
            Due.same("no search in " + place, x.x().next(place), -1);
        }
        x.searching("a").searching("a").searching("a");
        for (int place : NO_PLACES) {
            Due.same("next " + place, x.x().next(place), -1);
        }
        x.x().close(1);
        Due.same("closed", x.x().next(1), -1);
        Due.same("the others", x.x().next(0) + " " + x.x().next(2), "0 0");
    }

    private static void left() {
        Due.sentence("Promise 13",
                "How many hits the search in a place has left: how often next() would answer a post, if nothing else "
                + "happened between.");
        Index x = new Index().written(24, "a");
        x.searching("a").searching("-a").searching("a|-a");
        Due.same("the most", x.x().left(0), 12);
        Due.same("none", x.x().left(1), 0);
        for (int hit = 0; hit < 12; hit++) {
            Due.same("left", x.x().left(2), 12 - hit);
            Due.same("left again", x.x().left(2), 12 - hit);
            Due.same("next", x.x().next(2), 23 - hit);
        }
        Due.same("none is left", x.x().left(2), 0);
        Due.same("next", x.x().next(2), -1);
        Due.same("none is left", x.x().left(2), 0);
        x.x().erase(12);
        Due.same("left without an erased one", x.x().left(0), 11);
        Index older = new Index().written(12, "a").searching("a");
        older.posted("a");
        Due.same("left before the oldest segment retires", older.x().left(0), 12);
        older.wrote(1);
        Due.same("left after", older.x().left(0), 8);
        older.wrote(1);
        Due.same("a new post is not below the bound", older.x().left(0), 8);
    }

    private static void leftNoSearch() {
        Due.sentence("Promise 13", "-1 if there is no such place or no search in it.");
        Index x = new Index().written("a");
        for (int place = 0; place < 3; place++) {
            Due.same("no search in " + place, x.x().left(place), -1);
        }
        x.searching("a").searching("a").searching("a");
        for (int place : NO_PLACES) {
            Due.same("left " + place, x.x().left(place), -1);
        }
        x.x().close(2);
        Due.same("closed", x.x().left(2), -1);
        Due.same("the others", x.x().left(0) + " " + x.x().left(1), "1 1");
    }

    private static void closeFrees() {
        Due.sentence("Promise 14", "Ends the search in a place, which is free then: true; ");
        for (int place = 0; place < 3; place++) {
            Index x = new Index().written("a", "a").searching("a").searching("a").searching("a");
            Due.same("next", x.x().next(place), 1);
            Due.same("close " + place, x.x().close(place), true);
            for (int other = 0; other < 3; other++) {
                Due.same("left in " + other, x.x().left(other), other == place ? -1 : 2);
            }
            Due.same("search", x.begin("a"), place);
            Due.same("it begins anew", x.rest(place), "1 0");
        }
    }

    private static void closeNoSearch() {
        Due.sentence("Promise 14", "false if there is no such place or no search in it.");
        Index x = new Index();
        for (int place = 0; place < 3; place++) {
            Due.same("no search in " + place, x.x().close(place), false);
        }
        x.searching("a").searching("a").searching("a");
        for (int place : NO_PLACES) {
            Due.same("close " + place, x.x().close(place), false);
        }
        for (int place = 0; place < 3; place++) {
            Due.same("close " + place, x.x().close(place), true);
            Due.same("close " + place + " again", x.x().close(place), false);
        }
    }

    private static void form() {
        Due.sentence("Promise 15",
                "-1 if segment g has not begun (or g is not 0 .. 5), 0 it is live and not full, 1 full and not packed, "
                + "2 the same, and some term of it was rewritten, 3 packed (and live), 4 retired.");
        Index x = new Index();
        Due.same("not begun", x.x().form(0), -1);
        x.posted("a", "b", "", "");
        Due.same("not begun", x.x().form(0), -1);
        x.wrote(1);
        Due.same("live and not full", x.x().form(0), 0);
        x.wrote(4);
        Due.same("live and not full, with three published", x.x().form(0), 0);
        x.wrote(1);
        Due.same("full", x.x().form(0), 1);
        x.packed(1);
        Due.same("one of two terms rewritten", x.x().form(0), 2);
        x.packed(1);
        Due.same("all terms rewritten", x.x().form(0), 2);
        x.packed(1);
        Due.same("packed", x.x().form(0), 3);
        x.written(8, "");
        Due.same("packed, the third of three", x.x().form(0), 3);
        x.written("");
        Due.same("retired", x.x().form(0), 4);
        Index empty = new Index().written(4, "");
        Due.same("full without terms", empty.x().form(0), 1);
        empty.packed(1);
        Due.same("packed without a term rewritten", empty.x().form(0), 3);
        noSegments("form", PostIndex::form);
    }

    /** However many segments have begun, these are none. */
    private static void noSegments(String what, ToIntBiFunction<PostIndex, Integer> call) {
        Index x = new Index();
        for (int count = 0; count <= 24; count++) {
            for (int g : NO_SEGMENTS) {
                Due.same(what + " of " + g + " with " + count + " posts", call.applyAsInt(x.x(), g), -1);
            }
            if (count < 24) {
                x.written("a");
            }
        }
    }

    private static void size() {
        Due.sentence("Promise 16", "-1 if it is not live.");
        noSegments("size", PostIndex::size);
        Index x = new Index().written(12, "a");
        Due.same("not begun", x.x().size(3), -1);
        Due.same("live", x.x().size(0), 6);
        x.packed(2).posted("a");
        Due.same("live and packed", x.x().size(0), 8);
        Due.same("not begun", x.x().size(3), -1);
        x.wrote(1);
        Due.same("retired", x.x().size(0), -1);
        Due.same("begun", x.x().size(3), 2);
        Due.same("begun, without a term", new Index().written("").x().size(0), 0);
        x.wrote(1).written(11, "a");
        for (int g = 0; g < 6; g++) {
            Due.same("size " + g, x.x().size(g), g < 3 ? -1 : 6);
        }
    }

    private static void terms() {
        Due.sentence("Promise 17", "How many terms a live segment has; -1 if it is not live.");
        noSegments("terms", PostIndex::terms);
        Index x = new Index().written(12, "a b");
        Due.same("not begun", x.x().terms(3), -1);
        Due.same("live", x.x().terms(0), 2);
        x.packed(3).posted("a");
        Due.same("live and packed", x.x().terms(0), 2);
        Due.same("not begun", x.x().terms(3), -1);
        x.wrote(1);
        Due.same("retired", x.x().terms(0), -1);
        Due.same("begun", x.x().terms(3), 1);
        Due.same("begun, without a term", new Index().written("").x().terms(0), 0);
        x.wrote(1).written(11, "a b");
        for (int g = 0; g < 6; g++) {
            Due.same("terms " + g, x.x().terms(g), g < 3 ? -1 : 2);
        }
        x.x().erase(23);
        Due.same("with an erased post", x.x().terms(5), 2);
    }

    private static void postings() {
        Due.sentence("Promise 18",
                "How many postings the terms of a live segment have together; -1 if it is not live.");
        noSegments("postings", PostIndex::postings);
        Index x = new Index().written(12, "a b");
        Due.same("not begun", x.x().postings(3), -1);
        Due.same("live", x.x().postings(0), 8);
        x.packed(3).posted("a");
        Due.same("live and packed", x.x().postings(0), 8);
        Due.same("not begun", x.x().postings(3), -1);
        x.wrote(1);
        Due.same("retired", x.x().postings(0), -1);
        Due.same("begun", x.x().postings(3), 1);
        Due.same("begun, without a term", new Index().written("").x().postings(0), 0);
        x.wrote(1).written(11, "a b");
        for (int g = 0; g < 6; g++) {
            Due.same("postings " + g, x.x().postings(g), g < 3 ? -1 : g == 3 ? 7 : 8);
        }
        x.x().erase(23);
        Due.same("with an erased post", x.x().postings(5), 8);
    }
}
