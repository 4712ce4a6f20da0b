/** A PostIndex with the runs of calls that tests need again and again; it sees to it that no test leaves the 512 calls. */
final class Index {
    static final int MOST_CALLS = 512;
    private final PostIndex index = new PostIndex();
    private int calls;

    /** For one call. A test that waits for an answer which never comes ends here too. */
    PostIndex x() {
        calls++;
        if (calls > MOST_CALLS) {
            Due.same("the number of calls that a test makes", calls, MOST_CALLS);
            Due.end();
        }
        return index;
    }

    int calls() {
        return calls;
    }

    Index typed(String text) {
        for (char c : text.toCharArray()) {
            Due.same("type " + c, x().type(c), true);
        }
        return this;
    }

    int post(int author, int time, String text) {
        typed(text);
        return x().post(author, time);
    }

    /** Makes posts that wait. */
    Index posted(String... texts) {
        for (String text : texts) {
            Due.same("post of " + text, post(0, 0, text) >= 0, true);
        }
        return this;
    }

    /** Makes posts and publishes them. */
    Index written(String... texts) {
        for (String text : texts) {
            posted(text).writeAll();
        }
        return this;
    }

    Index written(int count, String text) {
        for (int i = 0; i < count; i++) {
            written(text);
        }
        return this;
    }

    Index writeAll() {
        int done = 6;
        while (done == 6) {
            done = x().write(6);
        }
        return this;
    }

    Index packAll() {
        int done = 6;
        while (done == 6) {
            done = x().pack(6);
        }
        return this;
    }

    /** One unit at a time, because six could do more than is asked for. */
    Index wrote(int units) {
        for (int i = 0; i < units; i++) {
            Due.same("a unit of the writer", x().write(1), 1);
        }
        return this;
    }

    Index packed(int units) {
        for (int i = 0; i < units; i++) {
            Due.same("a unit of the second worker", x().pack(1), 1);
        }
        return this;
    }

    int begin(String query) {
        return typed(query).x().search();
    }

    /** Begins a search on an empty draft, which must go well, and stays with it. */
    Index searching(String query) {
        Due.same("search for " + query, begin(query) >= 0, true);
        return this;
    }

    /** The hits that the search in a place has left, after which it has none. */
    String rest(int place) {
        int left = x().left(place);
        if (left < 0) {
            return "no search, " + x().next(place);
        }
        StringBuilder rest = new StringBuilder();
        int hits = 0;
        for (int hit = x().next(place); hit >= 0 && hits < 24; hit = x().next(place)) {
            rest.append(hit).append(' ');
            hits++;
        }
        Due.same("left against next", left, hits);
        return rest.toString().trim();
    }

    /** All hits of a query; the place that it uses is free again then. */
    String hits(String query) {
        int place = begin(query);
        if (place < 0) {
            return "refused " + place;
        }
        String hits = rest(place);
        Due.same("close", x().close(place), true);
        return hits;
    }

    /** form, size, terms and postings of a segment. */
    String segment(int g) {
        return x().form(g) + " " + x().size(g) + " " + x().terms(g) + " " + x().postings(g);
    }

    /** Every answer that can be asked for without changing anything. */
    String state() {
        StringBuilder state = new StringBuilder();
        state.append(x().length()).append(' ').append(x().published());
        for (int g = 0; g < 6; g++) {
            state.append(" | ").append(segment(g));
        }
        for (int place = 0; place < 3; place++) {
            state.append(" / ").append(x().left(place));
        }
        return state.toString();
    }
}
