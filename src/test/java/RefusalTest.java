import java.util.function.Consumer;
import java.util.function.Function;

/**
 * A refused call changes nothing, for each call and each cause that the document names, and neither does one that only
 * asks: of two objects with the same calls one gets the call too, and all that can be seen later on is compared.
 */
public final class RefusalTest {
    private static final int[] FAR = {-1, Integer.MIN_VALUE, Integer.MAX_VALUE};

    public static void main(String[] args) {
        type();
        quote();
        post();
        erase();
        searchMalformed();
        searchNoPlace();
        searchTooMany();
        noUnits();
        nextNone();
        closeNone();
        onlyAsked();
        Due.end();
    }

    /** The call is made twice, so that what it might count or toggle is seen as well. */
    private static void unchanged(String what, Consumer<Index> before, Function<PostIndex, Object> call,
            Object answer) {
        for (int times = 1; times <= 2; times++) {
            Index plain = new Index();
            Index tried = new Index();
            before.accept(plain);
            before.accept(tried);
            for (int i = 0; i < times; i++) {
                Due.same(what, call.apply(tried.x()), answer);
            }
            Due.same("what follows " + what, future(tried), future(plain));
        }
    }

    /** Everything that can be seen of an object, at the price of changing it. */
    private static String future(Index x) {
        StringBuilder seen = new StringBuilder(x.state());
        for (int place = 0; place < 3; place++) {
            seen.append(" next ").append(x.x().next(place));
        }
        seen.append(" write ").append(x.x().write(2)).append(" pack ").append(x.x().pack(1));
        seen.append('\n').append(x.state());
        // What the draft holds is seen as a post if one can be made, and otherwise as a query.
        seen.append("\npost ").append(x.x().post(3, 7)).append(" search ").append(x.x().search());
        seen.append(" write ").append(x.x().write(6)).append(x.x().write(6)).append(x.x().write(6));
        seen.append('\n').append(x.state());
        x.x().clear();
        for (int post = 0; post < 24; post++) {
            seen.append(' ').append(x.x().quote(post));
            x.x().clear();
        }
        for (int place = 0; place < 3; place++) {
            seen.append(" rest ").append(x.rest(place)).append(" close ").append(x.x().close(place));
        }
        for (String query : new String[] {"aa", "b", "c", "=3", "=0<9"}) {
            seen.append(" hits ").append(x.begin(query)).append(" : ").append(x.rest(0)).append(x.x().close(0));
            x.x().clear();
        }
        seen.append(" pack ").append(x.x().pack(6)).append(x.x().pack(6)).append('\n').append(x.x().form(0));
        x.typed("a");
        int searches = 0;
        while (x.x().search() == 0) {
            x.x().close(0);
            x.typed("a");
            searches++;
        }
        seen.append(" searches ").append(searches);
        int posts = 0;
        while (x.x().post(0, 0) >= 0) {
            x.x().write(6);
            posts++;
        }
        return seen.append(" posts ").append(posts).append(" published ").append(x.x().published()).toString();
    }

    /** Some of all: an erased post, a published one, one in work, a waiting one, two searches, a draft. */
    private static void some(Index x) {
        x.written("aa b", "c", "b c aa").searching("aa").searching("-b");
        Due.same("next", x.x().next(0), 2);
        Due.same("erase", x.x().erase(1), true);
        x.posted("b b aa", "c").wrote(2).typed("b-aa");
    }

    /** Segments of each form: 0 retired, 1 packed, 2 with a term rewritten, 3 in work. */
    private static void longRun(Index x) {
        x.written(4, "b").written(4, "aa").packed(4).written(4, "aa c").searching("aa|c");
        x.packed(1).written("c").posted("b").wrote(1);
        Due.same("forms", x.x().form(0) + " " + x.x().form(1) + " " + x.x().form(2) + " " + x.x().form(3), "4 3 2 0");
        x.typed("aa|b");
    }

    private static void fullDraft(Index x) {
        some(x);
        x.typed(" c c c c c c c c c c");
    }

    private static void fourWaiting(Index x) {
        x.written("aa").posted("b", "c", "b", "aa").typed("c");
    }

    private static void allMade(Index x) {
        x.written(22, "").posted("aa", "b").wrote(3).typed("c");
    }

    private static void noPlace(Index x) {
        x.written("aa", "b").searching("aa").searching("b").searching("-b").typed("c|aa");
        Due.same("next", x.x().next(2), 0);
    }

    private static void allBegun(Index x) {
        x.written("aa", "b");
        for (int number = 0; number < 22; number++) {
            x.searching("aa");
            x.x().close(0);
        }
        x.searching("b").searching("aa").typed("aa");
    }

    private static void type() {
        Due.sentence("Terms, for type", "A call that is refused changes nothing.");
        for (char c : new char[] {0, 31, 127, 255, 256 + 'a', 65535}) {
            unchanged("type " + (int) c, RefusalTest::some, x -> x.type(c), false);
            unchanged("type " + (int) c + " on an empty draft", x -> x.written("aa"), x -> x.type(c), false);
        }
        for (char c : new char[] {31, ' ', 'a', '|', 126, 127}) {
            unchanged("type " + (int) c + " on a full draft", RefusalTest::fullDraft, x -> x.type(c), false);
        }
    }

    private static void quote() {
        Due.sentence("Terms, for quote", "A call that is refused changes nothing.");
        for (int post : new int[] {24, 25, 5, 23}) {
            unchanged("quote of no post " + post, RefusalTest::some, x -> x.quote(post), -1);
        }
        for (int post : FAR) {
            unchanged("quote of no post " + post, RefusalTest::some, x -> x.quote(post), -1);
        }
        unchanged("quote of a post in work", RefusalTest::some, x -> x.quote(3), -1);
        unchanged("quote of a waiting post", RefusalTest::some, x -> x.quote(4), -1);
        unchanged("quote of an erased post", RefusalTest::some, x -> x.quote(1), -1);
        for (int post = 0; post < 4; post++) {
            int number = post;
            unchanged("quote of a retired post", RefusalTest::longRun, x -> x.quote(number), -1);
        }
        unchanged("quote on a full draft, which appends nothing", RefusalTest::fullDraft, x -> x.quote(0), 0);
    }

    private static void post() {
        Due.sentence("Terms, for post", "A call that is refused changes nothing.");
        for (int author : new int[] {10, 11, -1, Integer.MIN_VALUE, Integer.MAX_VALUE}) {
            unchanged("post by " + author, RefusalTest::some, x -> x.post(author, 5), -1);
            unchanged("post by " + author, RefusalTest::longRun, x -> x.post(author, 5), -1);
            unchanged("post by " + author + " of an empty draft", x -> x.posted("aa"), x -> x.post(author, 5), -1);
        }
        unchanged("post with four waiting", RefusalTest::fourWaiting, x -> x.post(5, 5), -1);
        unchanged("post with one of four in work", x -> {
            fourWaiting(x);
            x.wrote(1);
        }, x -> x.post(5, 5), -1);
        unchanged("post with 24 made", RefusalTest::allMade, x -> x.post(5, 5), -1);
        unchanged("post with 24 made and published", x -> {
            allMade(x);
            x.wrote(1);
        }, x -> x.post(5, 5), -1);
    }

    private static void erase() {
        Due.sentence("Terms, for erase", "A call that is refused changes nothing.");
        for (int post : new int[] {24, 25, 5, 23}) {
            unchanged("erase of no post " + post, RefusalTest::some, x -> x.erase(post), false);
        }
        for (int post : FAR) {
            unchanged("erase of no post " + post, RefusalTest::some, x -> x.erase(post), false);
        }
        // Posts that are made later must not be erased by it.
        unchanged("erase of a post before it is made", x -> x.typed("aa"), x -> x.erase(0), false);
        unchanged("erase of a post in work", RefusalTest::some, x -> x.erase(3), false);
        unchanged("erase of a waiting post", RefusalTest::some, x -> x.erase(4), false);
        unchanged("erase of an erased post", RefusalTest::some, x -> x.erase(1), false);
        for (int post = 0; post < 4; post++) {
            int number = post;
            unchanged("erase of a retired post", RefusalTest::longRun, x -> x.erase(number), false);
        }
    }

    private static void searchMalformed() {
        Due.sentence("Terms, for search, malformed", "A call that is refused changes nothing.");
        for (String bad : new String[] {"", " ", "aa|", "aa -", "\"aa", "aa)", "(b", "b =", "b #", "b,c",
                "(((((((b)))))))", "=1234567890", "\"aa|b\""}) {
            unchanged("search for " + bad, x -> x.written("aa b", "b").searching("b").typed(bad), x -> x.search(), -1);
            unchanged("search for " + bad + " with no place free", x -> {
                noPlace(x);
                x.x().clear();
                x.typed(bad);
            }, x -> x.search(), -1);
            unchanged("search for " + bad + " with 24 begun", x -> {
                allBegun(x);
                x.x().clear();
                x.typed(bad);
            }, x -> x.search(), -1);
        }
    }

    private static void searchNoPlace() {
        Due.sentence("Terms, for search, no place is free", "A call that is refused changes nothing.");
        unchanged("search", RefusalTest::noPlace, x -> x.search(), -2);
        unchanged("search", x -> {
            noPlace(x);
            x.x().clear();
            x.written("aa", "aa").typed("((((((b-c))))))\"aa b\"");
        }, x -> x.search(), -2);
    }

    private static void searchTooMany() {
        Due.sentence("Terms, for search, 24 were begun", "A call that is refused changes nothing.");
        unchanged("search with one place free", RefusalTest::allBegun, x -> x.search(), -2);
        unchanged("search with three places free", x -> {
            allBegun(x);
            x.x().close(0);
            x.x().close(1);
        }, x -> x.search(), -2);
    }

    private static void noUnits() {
        Due.sentence("Promises 7 and 10", "Answers how many; 0 if n is not 1 .. 6.");
        for (int n : new int[] {0, -1, 7, 8, Integer.MIN_VALUE, Integer.MAX_VALUE}) {
            unchanged("write " + n, RefusalTest::some, x -> x.write(n), 0);
            unchanged("write " + n, RefusalTest::longRun, x -> x.write(n), 0);
            unchanged("write " + n + " before a segment begins", x -> x.written(12, "aa").posted("b"), x -> x.write(n),
                    0);
            unchanged("pack " + n, RefusalTest::longRun, x -> x.pack(n), 0);
            unchanged("pack " + n + " on a full segment", x -> x.written(4, "aa b"), x -> x.pack(n), 0);
        }
        for (int n = 1; n <= 6; n++) {
            int units = n;
            unchanged("write with none waiting", x -> x.written("aa", "b").typed("c"), x -> x.write(units), 0);
            unchanged("pack with no full segment", RefusalTest::some, x -> x.pack(units), 0);
        }
    }

    private static void nextNone() {
        Due.sentence("Promise 12", "-1 if there is none (the bound stays), or no such place, or no search in it.");
        unchanged("next with no hit", x -> {
            some(x);
            x.rest(0);
        }, x -> x.next(0), -1);
        unchanged("next with bound 0", x -> x.searching("aa").posted("aa"), x -> x.next(0), -1);
        unchanged("next in a free place", RefusalTest::some, x -> x.next(2), -1);
        for (int place : new int[] {3, 4, -1, Integer.MIN_VALUE, Integer.MAX_VALUE}) {
            unchanged("next " + place, RefusalTest::noPlace, x -> x.next(place), -1);
            unchanged("left " + place, RefusalTest::noPlace, x -> x.left(place), -1);
        }
    }

    private static void closeNone() {
        Due.sentence("Promise 14", "false if there is no such place or no search in it.");
        unchanged("close of a free place", RefusalTest::some, x -> x.close(2), false);
        unchanged("close with none open", x -> x.typed("aa"), x -> x.close(0), false);
        for (int place : new int[] {3, 4, -1, Integer.MIN_VALUE, Integer.MAX_VALUE}) {
            unchanged("close " + place, RefusalTest::noPlace, x -> x.close(place), false);
        }
    }

    private static void onlyAsked() {
        Due.sentence("Not promised", "Nothing is promised beyond the answers and state changes described above");
        unchanged("length", RefusalTest::some, x -> x.length(), 4);
        unchanged("published", RefusalTest::some, x -> x.published(), 3);
        unchanged("left", RefusalTest::some, x -> x.left(0), 1);
        unchanged("left of the other one", RefusalTest::some, x -> x.left(1), 0);
        for (int segment = -1; segment <= 6; segment++) {
            int g = segment;
            Index like = new Index();
            longRun(like);
            unchanged("form " + g, RefusalTest::longRun, x -> x.form(g), like.x().form(g));
            unchanged("size " + g, RefusalTest::longRun, x -> x.size(g), like.x().size(g));
            unchanged("terms " + g, RefusalTest::longRun, x -> x.terms(g), like.x().terms(g));
            unchanged("postings " + g, RefusalTest::longRun, x -> x.postings(g), like.x().postings(g));
        }
    }
}
