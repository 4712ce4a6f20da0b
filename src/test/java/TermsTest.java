import java.util.Arrays;
import java.util.HashSet;
import java.util.List;
import java.util.function.ToIntFunction;

/** One test for each sentence of "Terms", and of what stands before it, that names a boundary case. */
public final class TermsTest {
    private static final String TWELVE = "0 1 2 3 4 5 6 7 8 9 a b";

    public static void main(String[] args) {
        searchesGoOn();
        mostCalls();
        draft();
        wordCharacters();
        tokens();
        capitals();
        tokenNumbers();
        places();
        mostPosts();
        authorsAndTimes();
        waiting();
        postsOfSegments();
        begins();
        full();
        retired();
        live();
        writerOrder();
        writerUnits();
        terms();
        postings();
        secondWorkerTakes();
        secondWorkerUnits();
        rewrittenIsLost();
        slices();
        pieces();
        Due.end();
    }

    private static void mostCalls() {
        Due.sentence("What it is", "An object is used for at most 512 calls after it has been made");
        Index x = new Index().written("a b");
        x.searching("b");
        while (x.calls() < Index.MOST_CALLS - 1) {
            Due.same("left at call " + x.calls(), x.x().left(0), 1);
        }
        Due.same("next as call 512", x.x().next(0), 0);

        x = new Index();
        while (x.calls() < 480) {
            Due.same("type", x.x().type('a'), true);
            x.x().clear();
            Due.same("write", x.x().write(6), 0);
            Due.same("pack", x.x().pack(6), 0);
            Due.same("post by nobody", x.x().post(10, 0), -1);
            Due.same("search on an empty draft", x.x().search(), -1);
            Due.same("quote", x.x().quote(0), -1);
            Due.same("close", x.x().close(0), false);
        }
        Due.same("post after 480 calls", x.post(1, 2, "late"), 0);
        x.writeAll();
        Due.same("hits after 480 calls", x.hits("late =1 >1 <3"), "0");
        Due.same("still within", x.calls() <= Index.MOST_CALLS, true);
        List<ToIntFunction<PostIndex>> asked = List.of(PostIndex::length, PostIndex::published, y -> y.write(1),
                y -> y.pack(6), y -> y.left(0), y -> y.next(1), y -> y.form(0), y -> y.size(0), y -> y.terms(0),
                y -> y.postings(0));
        int[] due = {2, 1, 0, 0, 1, -1, 0, 4, 2, 2};
        for (int i = 0; i < due.length; i++) {
            x = new Index().written("a b").searching("a").typed("cd");
            while (x.calls() < Index.MOST_CALLS) {
                Due.same("question " + i + " as call " + x.calls(), asked.get(i).applyAsInt(x.x()), due[i]);
            }
        }
    }

    private static void searchesGoOn() {
        Due.sentence("What it is", "searches that were begun before go on through all this, newest posts first.");
        Index x = new Index().written("a", "b a", "c", "a").written("a", "a", "b", "a").searching("a");
        Due.same("next", x.x().next(0), 7);
        x.packed(2);
        Due.same("while a segment is rewritten", x.x().next(0), 5);
        x.written("a").searching("a");
        Due.same("left of the older search", x.x().left(0), 4);
        Due.same("left of the newer search", x.x().left(1), 7);
        x.packed(2);
        Due.same("form", x.x().form(0), 3);
        Due.same("next", x.x().next(0), 4);
        x.x().erase(3);
        Due.same("next", x.x().next(0), 1);
        x.written(3, "a").posted("a", "a");
        Due.same("left before segment 0 is retired", x.x().left(0) + " " + x.x().left(1), "1 6");
        x.wrote(1);
        Due.same("left when segment 0 is retired", x.x().left(0) + " " + x.x().left(1), "0 4");
        Due.same("next of the older search", x.x().next(0), -1);
        Due.same("the newer search", x.rest(1), "8 7 5 4");
        x.writeAll();
        Due.same("a search begun now", x.hits("a"), "13 12 11 10 9 8 7 5 4");
        Due.same("the older ones", x.rest(0) + x.rest(1), "");
    }

    private static void draft() {
        Due.sentence("Terms", "The DRAFT is a text of at most 24 characters (codes 32 .. 126).");
        for (int code : new int[] {32, 33, 65, 125, 126}) {
            Index x = new Index();
            Due.same("type " + code, x.x().type((char) code), true);
            Due.same("length", x.x().length(), 1);
        }
        // The last ones are a small letter if only their low byte or seven bits are looked at.
        for (int code : new int[] {0, 9, 10, 31, 127, 128, 160, 255, 256, 65535, 256 + 'a', 128 + 'a',
                65536 - 256 + 'a'}) {
            Index x = new Index();
            Due.same("type " + code, x.x().type((char) code), false);
            Due.same("length", x.x().length(), 0);
        }
        Index x = new Index().typed("abcdefghijklmnopqrstuvwx");
        Due.same("length", x.x().length(), 24);
        Due.same("type a 25th character", x.x().type('y'), false);
        Due.same("length", x.x().length(), 24);
        Due.same("post", x.x().post(0, 0), 0);
        x.writeAll();
        Due.same("all 24 characters were kept", x.hits("abcdefghijklmnopqrstuvwx"), "0");
        Due.same("not only 23 of them", x.hits("abcdefghijklmnopqrstuvw"), "");
        x.typed(" ");
        Due.same("quote", x.x().quote(0), 23);
        Due.same("length", x.x().length(), 24);
    }

    private static void wordCharacters() {
        Due.sentence("Terms", "WORD CHARACTERS are the letters, the digits and _ (95).");
        for (char c = 32; c <= 126; c++) {
            boolean ofWord = Character.isLetterOrDigit(c) || c == '_';
            boolean ofNext = c == '#' || c == '@';
            Index x = new Index().written("a" + c + "b");
            Due.same("terms of a" + c + "b", x.x().terms(0), ofWord ? 1 : 2);
            String row = ofWord ? "a" + c + "b" : ofNext ? "a " + c + "b" : "a b";
            Due.same("hits of the tokens of a" + c + "b", x.hits("\"" + row + "\""), "0");
            Due.same("hits of other words", x.hits("ab"), "");
            Index alone = new Index().posted("" + c);
            Due.same("units for " + c, alone.x().write(6), ofWord ? 2 : 1);
        }
    }

    private static void tokens() {
        Due.sentence("Terms",
                "A token is a longest run of word characters, and a # or @ directly before it belongs to it.");
        tokensOf("");
        tokensOf(" ");
        tokensOf("                        ");
        tokensOf("#");
        tokensOf("@");
        tokensOf("#@#@#@#@#@#@#@#@#@#@#@#@");
        tokensOf("a", "a");
        tokensOf("#a", "#a");
        tokensOf("@a", "@a");
        tokensOf("##a", "#a");
        tokensOf("@#a", "#a");
        tokensOf("#@a", "@a");
        tokensOf("# a", "a");
        tokensOf("#-a", "a");
        tokensOf("a#", "a");
        tokensOf("a#@", "a");
        tokensOf("a#b", "a", "#b");
        tokensOf("a##b", "a", "#b");
        tokensOf("a# b", "a", "b");
        tokensOf("#a@b", "#a", "@b");
        tokensOf("a,b", "a", "b");
        tokensOf(",a,,b,", "a", "b");
        tokensOf("_9z", "_9z");
        tokensOf("a a", "a", "a");
        tokensOf("ab a b", "ab", "a", "b");
        tokensOf("aaaaaaaaaaaaaaaaaaaaaaaa", "aaaaaaaaaaaaaaaaaaaaaaaa");
        tokensOf("#aaaaaaaaaaaaaaaaaaaaaaa", "#aaaaaaaaaaaaaaaaaaaaaaa");
        tokensOf("                       a", "a");
        tokensOf("                      @a", "@a");
        tokensOf("#a#b#c#d#e#f#g#h#i#j#k#l", "#a", "#b", "#c", "#d", "#e", "#f", "#g", "#h", "#i", "#j", "#k", "#l");
        Index x = new Index().written("#a", "@a", "a", "#a a");
        Due.same("terms with and without # and @", x.x().terms(0), 3);
        Due.same("hits of #a", x.hits("#a"), "3 0");
        Due.same("hits of @a", x.hits("@a"), "1");
        Due.same("hits of a", x.hits("a"), "3 2");
    }

    private static void tokensOf(String text, String... tokens) {
        Index x = new Index().posted(text);
        for (int i = 0; i < tokens.length; i++) {
            Due.same("a unit for token " + i + " of " + text, x.x().write(1), 1);
            Due.same("published before the last unit for " + text, x.x().published(), 0);
        }
        Due.same("the last unit for " + text, x.x().write(1), 1);
        Due.same("published after the last unit for " + text, x.x().published(), 1);
        Due.same("terms of " + text, x.x().terms(0), new HashSet<>(Arrays.asList(tokens)).size());
        for (String token : tokens) {
            Due.same("hits of " + token + " for " + text, x.hits(token), "0");
        }
    }

    private static void capitals() {
        Due.sentence("Terms", "Capital letters count as the small ones.");
        for (char small = 'a'; small <= 'z'; small++) {
            char capital = Character.toUpperCase(small);
            Index x = new Index().written("" + small, "" + capital, "#" + capital, "@x" + capital + "_");
            Due.same("terms for " + small, x.x().terms(0), 3);
            Due.same("hits of " + small, x.hits("" + small), "1 0");
            Due.same("hits of " + capital, x.hits("" + capital), "1 0");
            Due.same("hits in a row", x.hits("\"" + capital + "\""), "1 0");
            Due.same("hits behind #", x.hits("#" + small), "2");
            Due.same("hits within a word", x.hits("@X" + small + "_"), "3");
        }
        Index x = new Index().written("@a", "[a", "`a", "{a");
        Due.same("terms, the characters beside the letters", x.x().terms(0), 2);
        Due.same("hits of @a", x.hits("@A"), "0");
        Due.same("hits of a", x.hits("A"), "3 2 1");
    }

    private static void tokenNumbers() {
        Due.sentence("Terms", "The tokens of a text are counted 0, 1, .. from its beginning");
        Index x = new Index().written("", "", "", "c b a");
        x.packAll();
        // The last post's numbers are 24 + place, so c, b and a have the differences 8, 7 and 6: two pieces each.
        Due.same("packed size", x.x().size(0), 6);
        Due.same("from the beginning", x.hits("\"c b a\""), "3");
        Due.same("not from the end", x.hits("\"a b c\""), "");
    }

    private static void places() {
        Due.sentence("Terms", "the PLACE of a token is its number, but 7 if that is greater.");
        Index x = new Index().written(TWELVE);
        String words = "0123456789ab";
        for (int i = 0; i < 11; i++) {
            String row = "\"" + words.charAt(i) + " " + words.charAt(i + 1) + "\"";
            Due.same("hits of " + row, x.hits(row), i < 7 ? "0" : "");
        }
        for (int i = 8; i < 12; i++) {
            String row = "\"6 " + words.charAt(i) + "\"";
            Due.same("hits of " + row, x.hits(row), "0");
        }
        Due.same("5 is not before 7", x.hits("\"5 7\""), "");
        Due.same("5 is not before 8", x.hits("\"5 8\""), "");
        Due.same("7 and 7", x.hits("\"7 7\""), "");
        Due.same("the last row of eight", x.hits("\"0 1 2 3 4 5 6 b\""), "0");
        Due.same("a row of nine", x.hits("\"0 1 2 3 4 5 6 7 8\""), "");
        Due.same("every token has one posting", x.x().postings(0), 12);

        // Token 6 and token 7 differ in their place, tokens 7 to 11 don't.
        Index same = new Index().posted("0 1 2 3 4 5 x x x x x x");
        same.wrote(7);
        Due.same("postings with token 6", same.x().postings(0), 7);
        same.wrote(1);
        Due.same("postings with token 7", same.x().postings(0), 8);
        same.wrote(4);
        Due.same("postings with token 11", same.x().postings(0), 8);
    }

    private static void mostPosts() {
        Due.sentence("Terms", "POSTS are numbered 0, 1, .., at most 24 are ever made");
        Index x = new Index();
        for (int number = 0; number < 24; number++) {
            Due.same("post", x.x().post(0, 0), number);
            x.wrote(1);
            Due.same("erase", x.x().erase(number), true);
        }
        Due.same("post number 24, though none waits and all are erased", x.x().post(0, 0), -1);
        Due.same("published", x.x().published(), 24);
        Due.same("write", x.x().write(6), 0);

        // The last four still waiting.
        x = new Index().written(20, "").posted("", "", "", "");
        Due.same("post number 24 with four waiting", x.x().post(0, 0), -1);
        x.wrote(1);
        Due.same("post number 24 with three waiting", x.x().post(0, 0), -1);
        x.wrote(3);
        Due.same("post number 24 with none waiting", x.x().post(0, 0), -1);
    }

    private static void authorsAndTimes() {
        Due.sentence("Terms", "each has an author 0 .. 9, a time (any int) and a text.");
        for (int from = 0; from < 10; from += 5) {
            Index x = new Index();
            for (int author = from; author < from + 5; author++) {
                Due.same("post by " + author, x.x().post(author, 0), author - from);
                x.wrote(1);
            }
            for (int author = 0; author < 10; author++) {
                boolean its = author >= from && author < from + 5;
                Due.same("hits by " + author, x.hits("=" + author), its ? "" + (author - from) : "");
            }
        }
        Index x = new Index();
        int[] times = {Integer.MIN_VALUE, -1, 0, 1, 999999998, 999999999, 1000000000, Integer.MAX_VALUE};
        for (int time : times) {
            Due.same("post at " + time, x.x().post(0, time) >= 0, true);
            x.wrote(1);
        }
        Due.same("before 0", x.hits("<0"), "1 0");
        Due.same("after 0", x.hits(">0"), "7 6 5 4 3");
        Due.same("neither", x.hits("-<0->0"), "2");
        Due.same("before 1", x.hits("<1"), "2 1 0");
        Due.same("after the greatest number", x.hits(">999999999"), "7 6");
        Due.same("before the greatest number", x.hits("<999999999"), "4 3 2 1 0");
    }

    private static void waiting() {
        Due.sentence("Terms", "A post is WAITING until it is PUBLISHED; it can be ERASED later on.");
        Index x = new Index().posted("a", "a");
        for (int unit = 0; unit < 2; unit++) {
            Due.same("erase of a waiting post", x.x().erase(0), false);
            Due.same("quote of a waiting post", x.x().quote(0), -1);
            Due.same("hits of a waiting post", x.hits("a|-a"), "");
            x.wrote(1);
        }
        Due.same("hits of a published post", x.hits("a"), "0");
        Due.same("quote of a published post", x.x().quote(0), 1);
        x.x().clear();
        Due.same("erase of a published post", x.x().erase(0), true);
        Due.same("hits of an erased post", x.hits("a|-a"), "");
        Due.same("the next one still waits", x.x().erase(1), false);
        x.wrote(2);
        Due.same("hits of the next one", x.hits("a"), "1");
    }

    private static void postsOfSegments() {
        Due.sentence("Terms", "SEGMENT g (0 .. 5) are the posts 4 * g to 4 * g + 3.");
        Index x = new Index();
        for (int post = 0; post < 24; post++) {
            x.written("" + (char) ('a' + post));
            int g = post / 4;
            int its = post % 4 + 1;
            Due.same("segment " + g + " after post " + post, x.segment(g),
                    (its == 4 ? 1 : 0) + " " + 2 * its + " " + its + " " + its);
            Due.same("form of the next one", x.x().form(g + 1), -1);
        }
        for (int g = 0; g < 6; g++) {
            Due.same("segment " + g, x.segment(g), g < 3 ? "4 -1 -1 -1" : "1 8 4 4");
        }
        Due.same("form of segment 6", x.x().form(6), -1);
    }

    private static void begins() {
        Due.sentence("Terms", "It BEGINS when the writer does its first unit of work for post 4 * g");
        for (int g = 0; g < 6; g++) {
            for (String text : new String[] {"", "a b"}) {
                Index x = new Index().written(4 * g, "a");
                Due.same("form of " + g + " before its post is made", x.segment(g), "-1 -1 -1 -1");
                x.posted(text, "", "", "");
                Due.same("form of " + g + " while its post waits", x.segment(g), "-1 -1 -1 -1");
                Due.same("no unit", x.x().write(0) + x.x().write(7), 0);
                Due.same("form of " + g + " before the first unit", x.segment(g), "-1 -1 -1 -1");
                x.wrote(1);
                Due.same("form of " + g + " after the first unit", x.segment(g),
                        text.isEmpty() ? "0 0 0 0" : "0 2 1 1");
            }
        }
    }

    private static void full() {
        Due.sentence("Terms", "it is FULL when its four posts are published");
        for (int g = 0; g < 6; g++) {
            Index x = new Index().written(4 * g, "").packAll();
            x.posted("", "", "", "a");
            for (int unit = 0; unit < 4; unit++) {
                x.wrote(1);
                Due.same("form of " + g + " after unit " + unit, x.x().form(g), 0);
                Due.same("pack", x.x().pack(6), 0);
            }
            x.wrote(1);
            Due.same("form of " + g + " with its fourth post published", x.x().form(g), 1);
            Due.same("pack", x.x().pack(6), 2);
        }
        Index x = new Index().written("", "", "").posted("");
        for (int post = 0; post < 3; post++) {
            x.x().erase(post);
        }
        x.wrote(1);
        Due.same("form with erased posts", x.x().form(0), 1);
    }

    private static void retired() {
        Due.sentence("Terms", "RETIRED as soon as segment g + 3 begins.");
        for (int g = 0; g < 3; g++) {
            for (int units = 0; units < 3; units++) {
                Index x = new Index().written(4 * g, "").packAll();
                x.written(12, "a").packed(units);
                x.posted("b");
                Due.same("form of " + g + " while the post waits", x.x().form(g), 1 + units);
                x.wrote(1);
                Due.same("segment " + g + " after the first unit", x.segment(g), "4 -1 -1 -1");
                Due.same("form of " + (g + 1), x.x().form(g + 1), 1);
                x.wrote(1);
                Due.same("form of " + g + " after the second unit", x.x().form(g), 4);
            }
        }
        Index x = new Index().written(12, "").posted("");
        Due.same("form before an empty post is published", x.x().form(0), 1);
        x.wrote(1);
        Due.same("form after an empty post is published", x.x().form(0), 4);
        x.written(11, "");
        Due.same("forms of the last three, which nothing retires",
                x.x().form(2) + " " + x.x().form(3) + " " + x.x().form(4) + " " + x.x().form(5), "4 1 1 1");
    }

    private static void live() {
        Due.sentence("Terms", "It is LIVE from its beginning until it is retired; its posts are live, then.");
        Index x = new Index().written(12, "a").posted("a");
        Due.same("hits before", x.hits("a"), "11 10 9 8 7 6 5 4 3 2 1 0");
        for (int post = 0; post < 4; post++) {
            Due.same("quote before", x.x().quote(post), 1);
        }
        Due.same("erase before", x.x().erase(0), true);
        x.x().clear();
        x.searching("a");
        x.wrote(1);
        for (int post = 0; post < 4; post++) {
            Due.same("quote after", x.x().quote(post), -1);
            Due.same("erase after", x.x().erase(post), false);
        }
        Due.same("hits after, of a search begun before", x.rest(0), "11 10 9 8 7 6 5 4");
        Due.same("hits after", x.hits("a|-a"), "11 10 9 8 7 6 5 4");
        Due.same("quote of the next segment's first post", x.x().quote(4), 1);
        Due.same("erase of the next segment's first post", x.x().erase(4), true);
        x.x().clear();
        x.wrote(1);
        Due.same("hits with the new segment's first post", x.hits("a"), "12 11 10 9 8 7 6 5");
    }

    private static void writerOrder() {
        Due.sentence("Terms", "THE WRITER takes the waiting posts in order");
        Index x = new Index().posted("a b", "c", "", "d");
        String[] after = {"0 0 2 1 1", "0 0 4 2 2", "1 0 4 2 2", "1 0 6 3 3", "2 0 6 3 3", "3 0 6 3 3", "3 0 8 4 4",
                "4 1 8 4 4"};
        for (int unit = 0; unit < after.length; unit++) {
            x.wrote(1);
            Due.same("published and segment after unit " + unit, x.x().published() + " " + x.segment(0), after[unit]);
            Due.same("erase of the post in work", x.x().erase(x.x().published()), false);
        }
        Due.same("no unit is left", x.x().write(1), 0);
        Due.same("hits", x.hits("\"a b\"|c|d"), "3 1 0");
    }

    private static void writerUnits() {
        Due.sentence("Terms",
                "a unit of its work is to INDEX the next token of the post (in order), or, if none is left, to publish "
                + "the post.");
        Index x = new Index().posted("", TWELVE);
        Due.same("the one unit of an empty post", x.x().write(1), 1);
        Due.same("published", x.x().published(), 1);
        for (int token = 0; token < 12; token++) {
            x.wrote(1);
            Due.same("terms", x.x().terms(0), token + 1);
            Due.same("published", x.x().published(), 1);
        }
        x.wrote(1);
        Due.same("terms", x.x().terms(0), 12);
        Due.same("published", x.x().published(), 2);
        // The first token to be new is the first one in the text, not the last one.
        Index order = new Index().posted("a a b");
        order.wrote(2);
        Due.same("terms after two units", order.x().terms(0), 1);
        order.wrote(1);
        Due.same("terms after three units", order.x().terms(0), 2);
        // A token counts from the text's beginning anew for the next post.
        Index anew = new Index().written("x x x x x x x x", "a b");
        Due.same("the next post's places", anew.hits("\"a b\""), "1");
    }

    private static void terms() {
        Due.sentence("Terms", "A TERM of a live segment is a token that was indexed there");
        Index x = new Index().posted("a b", "a #a");
        int[] after = {1, 2, 2, 2, 3, 3};
        for (int count : after) {
            x.wrote(1);
            Due.same("terms", x.x().terms(0), count);
        }
        x.written("A", "B_");
        Due.same("terms of the full segment", x.x().terms(0), 4);
        x.written("a");
        Due.same("terms of the next segment", x.x().terms(1), 1);
        Due.same("terms of the full segment", x.x().terms(0), 4);
        // Words that begin alike, or end alike, are others.
        x = new Index().written("a aa aaa", "ab ba", "b bb", "aab");
        Due.same("terms that begin alike", x.x().terms(0), 8);
        x = new Index().written("#a#b#c#d#e#f#g#h#i#j#k#l", "@a@b@c@d@e@f@g@h@i@j@k@l", "a b c d e f g h i j k l",
                "m n o p q r s t u v w x");
        Due.same("the most terms", x.segment(0), "1 96 48 48");
        Due.same("the first and the last of them", x.hits("#a|x"), "3 0");
        Due.same("none of them", x.hits("y|#x|@x"), "");
    }

    private static void postings() {
        Due.sentence("Terms",
                "its POSTINGS are the different pairs of post and place at which it was indexed (published or not "
                + "yet).");
        Index x = new Index().posted("a a a a a a a a a a a a", "a", "b a");
        for (int token = 0; token < 12; token++) {
            x.wrote(1);
            Due.same("postings, not yet published", x.x().postings(0), Math.min(token, 7) + 1);
        }
        x.wrote(1);
        Due.same("postings, published", x.x().postings(0), 8);
        x.wrote(2);
        Due.same("the same place in another post", x.x().postings(0), 9);
        x.wrote(3);
        Due.same("another place in another post", x.x().postings(0), 11);
        Index other = new Index().written("0 1 2 3 4 5 6 a b a b a");
        Due.same("place 7 once for each term", other.x().postings(0), 9);
        Index most = new Index().written(4, "a a a a a a a a a a a a");
        Due.same("the most postings of one term", most.x().postings(0) + " " + most.x().terms(0), "32 1");
    }

    private static void secondWorkerTakes() {
        Due.sentence("Terms", "THE SECOND WORKER takes the full live segment with the least number that is not PACKED");
        Index x = new Index().written(12, "a");
        x.packed(2);
        Due.same("forms", forms(x), "3 1 1 -1 -1 -1");
        x.packed(1);
        Due.same("forms", forms(x), "3 2 1 -1 -1 -1");
        x.packed(2);
        Due.same("forms", forms(x), "3 3 2 -1 -1 -1");
        x.packed(1);
        Due.same("forms", forms(x), "3 3 3 -1 -1 -1");
        Due.same("nothing is left", x.x().pack(1), 0);
        x.written(3, "a");
        Due.same("forms", forms(x), "4 3 3 0 -1 -1");
        Due.same("a segment that is not full is not taken", x.x().pack(1), 0);
        x.written(1, "a");
        x.packed(1);
        Due.same("forms", forms(x), "4 3 3 2 -1 -1");
        x.written(1, "a");
        Due.same("forms", forms(x), "4 4 3 2 0 -1");
        x.packed(1);
        Due.same("forms", forms(x), "4 4 3 3 0 -1");
        Due.same("retired ones are not taken", new Index().written(13, "a").x().pack(6), 4);
        Index later = new Index().written(13, "a").packed(1);
        Due.same("the least live one is taken", forms(later), "4 2 1 0 -1 -1");
        Index last = new Index().written(24, "a");
        Due.same("pack", last.x().pack(6), 6);
        Due.same("the last ones are taken", forms(last), "4 4 4 3 3 3");
        Due.same("pack", last.x().pack(6), 0);
    }

    private static String forms(Index x) {
        StringBuilder forms = new StringBuilder();
        for (int g = 0; g < 6; g++) {
            forms.append(x.x().form(g)).append(' ');
        }
        return forms.toString().trim();
    }

    private static void secondWorkerUnits() {
        Due.sentence("Terms",
                "a unit of its work is to rewrite the next term of it (in the order in which they were first indexed), "
                + "or, if none is left, to exchange the segment's form: it is packed then.");
        Index x = new Index().written(4, "");
        Due.same("a segment without terms", x.segment(0), "1 0 0 0");
        x.packed(1);
        Due.same("one unit packs it", x.segment(0), "3 0 0 0");
        x = new Index().written("a b a", "a", "c", "");
        Due.same("before", x.segment(0), "1 10 3 5");
        for (int unit = 0; unit < 3; unit++) {
            x.packed(1);
            Due.same("the size is the old one while terms are rewritten", x.segment(0), "2 10 3 5");
        }
        x.packed(1);
        // a is at 8, 2 and 0: 24, 6 and 2; b is at 1: 31; c is at 16: 16.
        Due.same("after the exchange", x.segment(0), "3 12 3 5");
        Due.same("hits", x.hits("a|c"), "2 1 0");
        x = new Index().written("#a#b#c#d#e#f#g#h#i#j#k#l", "@a@b@c@d@e@f@g@h@i@j@k@l", "a b c d e f g h i j k l",
                "m n o p q r s t u v w x");
        x.packed(48);
        Due.same("48 terms rewritten", x.x().form(0), 2);
        x.packed(1);
        Due.same("exchanged", x.x().form(0), 3);
        Due.same("nothing is left", x.x().pack(1), 0);
        Due.same("the first and the last term", x.hits("#a|x"), "3 0");
        Due.same("none of the terms", x.hits("y|#x|@x"), "");
        hitsWhilePacked();
    }

    /** What a post matches is the same before, between and behind the units that pack its segment. */
    private static void hitsWhilePacked() {
        for (int units = 0; units <= 4; units++) {
            Index x = new Index().written("a b a", "b a", "c c c c c c c c a c", "").searching("a").packed(units);
            Due.same("form", x.x().form(0), units == 0 ? 1 : units < 4 ? 2 : 3);
            Due.same("hits of a word", x.hits("a"), "2 1 0");
            Due.same("hits of no word", x.hits("-a"), "3");
            Due.same("hits of a row", x.hits("\"a b\""), "0");
            Due.same("hits of a row", x.hits("\"b a\""), "1 0");
            Due.same("hits at place 7", x.hits("\"c a\""), "2");
            Due.same("hits behind place 7", x.hits("\"a c\""), "");
            Due.same("hits of a row of eight", x.hits("\"c c c c c c c c\""), "2");
            Due.same("quote", x.x().quote(2), 19);
            x.x().clear();
            x.x().erase(1);
            Due.same("hits of the search begun before", x.rest(0), "2 0");
        }
    }

    private static void rewrittenIsLost() {
        Due.sentence("Terms", "(When the segment is retired meanwhile, what was rewritten is lost.)");
        for (int units = 1; units < 4; units++) {
            Index x = new Index().written(12, "a b c").packed(units).posted("");
            Due.same("forms", forms(x), "2 1 1 -1 -1 -1");
            x.wrote(1);
            Due.same("forms", forms(x), "4 1 1 0 -1 -1");
            for (int unit = 0; unit < 3; unit++) {
                x.packed(1);
                Due.same("the next one is begun anew", forms(x), "4 2 1 0 -1 -1");
            }
            x.packed(1);
            Due.same("forms", forms(x), "4 3 1 0 -1 -1");
            Due.same("the rest", x.x().pack(6), 4);
            x.written(3, "a b c");
            Due.same("forms", forms(x), "4 3 3 1 -1 -1");
            Due.same("a full segment that begins later is rewritten wholly", x.x().pack(6), 4);
        }
    }

    private static void slices() {
        Due.sentence("Terms",
                "Not packed: for each term slices of 2, then 4, then 8, 8, .. cells, as many as its postings need");
        Index x = new Index().posted("a a a a a a a a", "a a a a a a a a", "a a a a a a a a", "a a a a a a a a");
        int seen = 0;
        for (int unit = 0; unit < 36; unit++) {
            x.wrote(1);
            boolean publishes = unit % 9 == 8;
            seen += publishes ? 0 : 1;
            Due.same("size with " + seen + " postings of one term", x.x().size(0), cells(seen));
        }
        Due.same("postings", x.x().postings(0), 32);
        for (int g = 1; g < 6; g++) {
            Index later = new Index().written(4 * g, "").written("a a a a a a", "a", "b", "");
            Due.same("segment " + g, later.segment(g), "1 16 2 8");
        }
        Index two = new Index().written("a a b a b b");
        Due.same("each term has slices of its own", two.x().size(0), 6 + 6);
        two.x().erase(0);
        Due.same("slices stay with an erased post", two.x().size(0), 12);
        Due.same("no term, no slice", new Index().written("").x().size(0), 0);
    }

    private static int cells(int postings) {
        int[] room = {2, 5, 12, 19, 26, 33};
        int[] cells = {2, 6, 14, 22, 30, 38};
        int i = 0;
        while (room[i] < postings) {
            i++;
        }
        return cells[i];
    }

    private static void pieces() {
        Due.sentence("Terms",
                "the difference of each to the one before (32 for the first) takes 1 piece if it is less than 4, 2 if "
                + "it is less than 16, else 3; all pieces count.");
        // A text in which only its last token is a: the others are words of their own that stand nowhere else.
        for (int post = 0; post < 4; post++) {
            for (int place = 0; place < 8; place++) {
                String[] texts = {"", "", "", ""};
                texts[post] = "bcdefgh".substring(0, place).replaceAll(".", "$0 ") + "a";
                int due = 0;
                for (int i = 0; i <= place; i++) {
                    due += piecesOf(32 - 8 * post - i);
                }
                Due.same("packed size of a at " + place + " of post " + post, packedSize(texts), due);
            }
        }
        differences();
        for (int g = 1; g < 6; g++) {
            Index later = new Index().written(4 * g, "").packAll().written("a", "b b", "", "b a").packAll();
            // The numbers of a are 25 and 0, those of b 24, 9 and 8, however many posts there were before.
            Due.same("packed segment " + g, later.segment(g), "3 " + (2 + 3 + 2 + 2 + 1) + " 2 5");
        }
        Due.same("32 differences of 1", packedSize("a a a a a a a a", "a a a a a a a a", "a a a a a a a a",
                "a a a a a a a a"), 32);
        Due.same("four differences of 8", packedSize("a", "a", "a", "a"), 8);
        Due.same("8 and 24", packedSize("a", "", "", "a"), 5);
        Due.same("no term, no piece", packedSize("", "", "", ""), 0);
        Index erased = new Index().written("a", "a", "a", "a");
        erased.x().erase(3);
        erased.packAll();
        Due.same("pieces stay with an erased post", erased.x().size(0), 8);
        erased.x().erase(0);
        Due.same("pieces stay with a post erased then", erased.x().size(0), 8);
    }

    /** Two postings of a, and every difference between them that there can be. */
    private static void differences() {
        for (int first = 0; first < 31; first++) {
            for (int second = first + 1; second < 32; second++) {
                String[] texts = {"", "", "", ""};
                int due = 0;
                for (int post = 0; post < 4; post++) {
                    int length = second / 8 == post ? second % 8 + 1 : first / 8 == post ? first % 8 + 1 : 0;
                    StringBuilder text = new StringBuilder();
                    for (int place = 0; place < length; place++) {
                        int number = 8 * post + place;
                        boolean isA = number == first || number == second;
                        text.append(isA ? "a " : "_" + Character.forDigit(number, 36) + " ");
                        due += isA ? 0 : piecesOf(32 - number);
                    }
                    texts[post] = text.toString().trim();
                }
                due += piecesOf(32 - second) + piecesOf(second - first);
                Due.same("packed size of a at " + first + " and " + second, packedSize(texts), due);
            }
        }
    }

    private static int piecesOf(int difference) {
        return difference >= 16 ? 3 : difference >= 4 ? 2 : 1;
    }

    private static int packedSize(String... texts) {
        Index x = new Index().written(texts).packAll();
        Due.same("form", x.x().form(0), 3);
        return x.x().size(0);
    }
}
