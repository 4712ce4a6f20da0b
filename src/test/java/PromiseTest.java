// Each promise of the document by itself: ordinary inputs, the edges it names, wrong inputs.
public final class PromiseTest {
    private static final int[] WRONG_NUMBERS = {-1, 24, 25, Integer.MIN_VALUE, Integer.MAX_VALUE};
    private static final int[] WRONG_PLACES = {-1, 3, 4, Integer.MIN_VALUE, Integer.MAX_VALUE};
    private static final int[] WRONG_UNITS = {0, -1, 7, 8, Integer.MIN_VALUE, Integer.MAX_VALUE};
    private static final int[] WRONG_SEGMENTS = {-1, 6, 7, Integer.MIN_VALUE, Integer.MAX_VALUE};

    private static int promise;
    private static int wrong;

    public static void main(String[] args) {
        newObject();
        type();
        quote();
        clear();
        length();
        post();
        waitingPosts();
        mostPosts();
        write();
        tokens();
        published();
        erase();
        pack();
        packAndRetire();
        search();
        searchLimits();
        wellFormed();
        longestQueries();
        malformed();
        next();
        matching();
        rowsOfWords();
        filters();
        left();
        close();
        form();
        size();
        slices();
        pieces();
        terms();
        postings();
        System.out.println(wrong == 0 ? "all promises hold" : wrong + " answers are not as due");
        if (wrong != 0) {
            System.exit(1);
        }
    }

    private static void newObject() {
        promise = 1;
        PostIndex x = new PostIndex();
        due("length", x.length(), 0);
        due("published", x.published(), 0);
        due("search on an empty draft", x.search(), -1);
        due("write", x.write(6), 0);
        due("pack", x.pack(6), 0);
        due("quote", x.quote(0), -1);
        due("erase", x.erase(0), false);
        for (int g = 0; g < 6; g++) {
            due("form", x.form(g), -1);
            due("size", x.size(g), -1);
            due("terms", x.terms(g), -1);
            due("postings", x.postings(g), -1);
        }
        for (int place = 0; place < 3; place++) {
            due("next", x.next(place), -1);
            due("left", x.left(place), -1);
            due("close", x.close(place), false);
        }
        PostIndex other = new PostIndex();
        add(x, 0, 0, "a");
        due("another object's posts", other.write(1), 0);
        due("first post", other.post(0, 0), 0);
    }

    private static void type() {
        promise = 2;
        PostIndex x = new PostIndex();
        for (int c = 0; c < 65536; c++) {
            x = c % 100 == 0 ? new PostIndex() : x;
            x.clear();
            boolean allowed = c >= 32 && c <= 126;
            due("type " + c, x.type((char) c), allowed);
            due("length after " + c, x.length(), allowed ? 1 : 0);
        }
        x = new PostIndex();
        for (int i = 0; i < 24; i++) {
            due("type number " + i, x.type('a'), true);
        }
        due("type number 24", x.type('a'), false);
        due("wrong type on a full draft", x.type((char) 31), false);
        due("length of the full draft", x.length(), 24);
        x.post(0, 0);
        x.write(2);
        due("hits of what was typed", hits(x, "aaaaaaaaaaaaaaaaaaaaaaaa"), "0 ");
    }

    private static void quote() {
        promise = 3;
        PostIndex x = new PostIndex();
        add(x, 1, 1, "Hello, World");
        due("quote of a waiting post", x.quote(0), -1);
        x.write(2);
        due("quote of a post half written", x.quote(0), -1);
        x.write(1);
        due("quote", x.quote(0), 12);
        due("length", x.length(), 12);
        typeAll(x, " #ab");
        due("quote with room for 8", x.quote(0), 8);
        due("length", x.length(), 24);
        due("quote with no room", x.quote(0), 0);
        due("length", x.length(), 24);
        due("post", x.post(2, 2), 1);
        writeAll(x);
        due("the beginning was quoted", hits(x, "\"hello world #abhello w\""), "1 ");
        for (int number : WRONG_NUMBERS) {
            due("quote " + number, x.quote(number), -1);
        }
        due("quote of no post", x.quote(2), -1);
        due("erase", x.erase(0), true);
        due("quote of an erased post", x.quote(0), -1);
        due("quote of the other post", x.quote(1), 24);
        x.clear();
        add(x, 0, 0, "");
        writeAll(x);
        due("quote of an empty post", x.quote(2), 0);
        due("length", x.length(), 0);
        quoteOfRetired();
    }

    private static void quoteOfRetired() {
        PostIndex x = new PostIndex();
        addWritten(x, 12, "ab");
        due("quote while live", x.quote(3), 2);
        x.clear();
        add(x, 0, 0, "ab");
        due("quote before segment 3 begins", x.quote(0), 2);
        x.clear();
        x.write(1);
        for (int number = 0; number < 4; number++) {
            due("quote of a retired post", x.quote(number), -1);
        }
        due("quote of a live post", x.quote(4), 2);
    }

    private static void clear() {
        promise = 4;
        PostIndex x = new PostIndex();
        x.clear();
        due("length", x.length(), 0);
        typeAll(x, "abcabcabcabcabcabcabcabc");
        x.clear();
        due("length", x.length(), 0);
        due("type", x.type('d'), true);
        due("length", x.length(), 1);
        x.post(0, 0);
        x.clear();
        writeAll(x);
        due("hits of the text before", hits(x, "abcabcabcabcabcabcabcabc"), "");
        due("hits of the text after", hits(x, "d"), "0 ");
        x.clear();
        due("posts stay", x.published(), 1);
    }

    private static void length() {
        promise = 5;
        PostIndex x = new PostIndex();
        for (int i = 0; i < 24; i++) {
            due("length", x.length(), i);
            x.type(' ');
        }
        due("length", x.length(), 24);
        due("length again", x.length(), 24);
        due("post refused", x.post(-1, 0), -1);
        due("length after a refused post", x.length(), 24);
        due("search refused", x.search(), -1);
        due("length after a refused search", x.length(), 24);
        x.post(0, 0);
        due("length after a post", x.length(), 0);
        typeAll(x, "ab");
        due("search", x.search(), 0);
        due("length after a search", x.length(), 0);
    }

    private static void post() {
        promise = 6;
        PostIndex x = new PostIndex();
        typeAll(x, "ab");
        int[] wrongAuthors = {-1, 10, 11, Integer.MIN_VALUE, Integer.MAX_VALUE};
        for (int author : wrongAuthors) {
            due("post by " + author, x.post(author, 5), -1);
            due("length", x.length(), 2);
        }
        due("post", x.post(9, Integer.MIN_VALUE), 0);
        due("length", x.length(), 0);
        due("empty post", x.post(0, Integer.MAX_VALUE), 1);
        writeAll(x);
        due("hits by author 9", hits(x, "=9"), "0 ");
        due("hits by author 0", hits(x, "=0"), "1 ");
        due("hits with the least time", hits(x, "<0"), "0 ");
        due("hits with the greatest time", hits(x, ">999999999"), "1 ");
    }

    private static void waitingPosts() {
        promise = 6;
        PostIndex x = new PostIndex();
        for (int number = 0; number < 4; number++) {
            due("post", add(x, 0, 0, "a"), number);
        }
        typeAll(x, "bc");
        due("fifth waiting post", x.post(0, 0), -1);
        due("length", x.length(), 2);
        x.write(1);
        due("while the first one is half written", x.post(0, 0), -1);
        x.write(1);
        due("after it is published", x.post(0, 0), 4);
        due("again four are waiting", x.post(0, 0), -1);
        writeAll(x);
        due("hits of the refused draft", hits(x, "bc"), "4 ");
    }

    private static void mostPosts() {
        promise = 6;
        PostIndex x = new PostIndex();
        for (int number = 0; number < 24; number++) {
            due("post", add(x, number % 10, number, "a"), number);
            due("write", x.write(6), 2);
        }
        typeAll(x, "abc");
        due("post number 24", x.post(0, 0), -1);
        due("length", x.length(), 3);
        due("write", x.write(6), 0);
        due("published", x.published(), 24);
        x.clear();
        due("hits", hits(x, "a"), "23 22 21 20 19 18 17 16 15 14 13 12 ");
    }

    private static void write() {
        promise = 7;
        PostIndex x = new PostIndex();
        due("write with nothing waiting", x.write(1), 0);
        add(x, 0, 0, "a b c d e");
        for (int n : WRONG_UNITS) {
            due("write " + n, x.write(n), 0);
            due("form", x.form(0), -1);
        }
        due("write", x.write(1), 1);
        due("terms", x.terms(0), 1);
        due("write", x.write(2), 2);
        due("terms", x.terms(0), 3);
        add(x, 0, 0, "");
        add(x, 0, 0, "f g");
        due("write", x.write(6), 6);
        due("published", x.published(), 2);
        due("terms", x.terms(0), 7);
        due("write", x.write(6), 1);
        due("write", x.write(6), 0);
        due("published", x.published(), 3);
    }

    private static void tokens() {
        promise = 7;
        PostIndex x = new PostIndex();
        add(x, 0, 0, "##a#b@#C_9 @ # d@e.#_ .");
        due("write", x.write(6), 6);
        due("published", x.published(), 0);
        due("write", x.write(6), 1);
        due("published", x.published(), 1);
        due("a token with its # and capitals", hits(x, "\"#a #b #c_9 d @e #_\""), "0 ");
        due("the run without its #", hits(x, "a|b|c_9|e|_|@C_9|#d"), "");
        add(x, 0, 0, "[@`{/:^~$*Z");
        due("only one token", x.write(6), 2);
        due("hits", hits(x, "z"), "1 ");
    }

    private static void published() {
        promise = 8;
        PostIndex x = new PostIndex();
        add(x, 0, 0, "a");
        add(x, 0, 0, "");
        due("published", x.published(), 0);
        x.write(1);
        due("published", x.published(), 0);
        x.write(1);
        due("published", x.published(), 1);
        x.write(1);
        due("published", x.published(), 2);
        x.erase(0);
        due("published after an erasure", x.published(), 2);
        addWritten(x, 18, "a");
        due("published with retired posts", x.published(), 20);
    }

    private static void erase() {
        promise = 9;
        PostIndex x = new PostIndex();
        due("erase of no post", x.erase(0), false);
        add(x, 0, 0, "a b");
        due("erase of a waiting post", x.erase(0), false);
        x.write(2);
        due("erase of a post half written", x.erase(0), false);
        x.write(1);
        int size = x.size(0);
        due("erase", x.erase(0), true);
        due("erase again", x.erase(0), false);
        due("hits", hits(x, "a"), "");
        due("hits of what it doesn't match", hits(x, "-c"), "");
        due("its size stays", x.size(0), size);
        due("its terms stay", x.terms(0), 2);
        due("its postings stay", x.postings(0), 2);
        for (int number : WRONG_NUMBERS) {
            due("erase " + number, x.erase(number), false);
        }
        addWritten(x, 11, "a");
        due("published", x.published(), 12);
        due("erase of the last post", x.erase(11), true);
        add(x, 0, 0, "a");
        due("erase before segment 3 begins", x.erase(1), true);
        x.write(1);
        due("erase of a retired post", x.erase(2), false);
        due("erase of a live post", x.erase(4), true);
        due("hits", hits(x, "a"), "10 9 8 7 6 5 ");
    }

    private static void pack() {
        promise = 10;
        PostIndex x = new PostIndex();
        addWritten(x, 3, "a b");
        due("pack of a segment that is not full", x.pack(6), 0);
        add(x, 0, 0, "c");
        x.write(1);
        due("pack before the fourth is published", x.pack(6), 0);
        x.write(1);
        for (int n : WRONG_UNITS) {
            due("pack " + n, x.pack(n), 0);
            due("form", x.form(0), 1);
        }
        due("pack", x.pack(2), 2);
        due("form", x.form(0), 2);
        due("pack", x.pack(1), 1);
        due("form with all terms rewritten", x.form(0), 2);
        due("pack", x.pack(6), 1);
        due("form", x.form(0), 3);
        due("pack", x.pack(6), 0);
        addWritten(x, 8, "d");
        due("pack goes on to the next segment", x.pack(3), 3);
        due("form", x.form(1), 3);
        due("form", x.form(2), 2);
        due("hits in packed segments", hits(x, "a|d"), "11 10 9 8 7 6 5 4 2 1 0 ");
    }

    private static void packAndRetire() {
        promise = 10;
        PostIndex x = new PostIndex();
        addWritten(x, 12, "a b");
        due("pack", x.pack(2), 2);
        add(x, 0, 0, "");
        due("write", x.write(1), 1);
        due("form", x.form(0), 4);
        due("form", x.form(1), 1);
        due("pack takes the next live one from its beginning", x.pack(2), 2);
        due("form", x.form(1), 2);
        due("pack", x.pack(1), 1);
        due("form", x.form(1), 3);
        due("form", x.form(2), 1);
        due("pack", x.pack(6), 3);
        due("form", x.form(2), 3);
        due("form", x.form(3), 0);
    }

    private static void search() {
        promise = 11;
        PostIndex x = new PostIndex();
        addWritten(x, 2, "a");
        due("search", begin(x, "a"), 0);
        due("search", begin(x, "b|a"), 1);
        due("length", x.length(), 0);
        due("search", begin(x, "c"), 2);
        due("a malformed draft goes before a full house", begin(x, "a|"), -1);
        x.clear();
        due("no place is free", begin(x, "b"), -2);
        due("the draft stays", x.length(), 1);
        x.close(1);
        due("the free place with the least number", x.search(), 1);
        due("it has the draft's query", x.left(1), 0);
        x.close(2);
        x.close(0);
        due("search", begin(x, "a"), 0);
        addWritten(x, 1, "a");
        due("search", begin(x, "a"), 2);
        due("the bound of an older search", x.left(0), 2);
        due("the bound of a newer search", x.left(2), 3);
    }

    private static void searchLimits() {
        promise = 11;
        PostIndex x = new PostIndex();
        due("malformed ones are not begun", begin(x, "("), -1);
        x.clear();
        for (int i = 0; i < 24; i++) {
            due("search number " + i, begin(x, "a"), 0);
            due("close", x.close(0), true);
        }
        due("search number 24", begin(x, "a"), -2);
        due("the draft stays", x.length(), 1);
        due("left", x.left(0), -1);
        x.type('(');
        due("malformed, and 24 were begun", x.search(), -1);
    }

    private static void wellFormed() {
        promise = 11;
        String[] good = {"a", "#a", "@a_9", "a b", "a|b", "a | b|c d", "-a", "--a", "- - a", "-----------------------a",
            "\"a\"", "\" a b \"", "\"#a@b\"", "(a)", "( a )", "((((((a))))))", "(((a)))(((b)))(((c)))", "-(a|-b)", "=1",
            "<123456789", ">000000000", "=1a", "=1=2<3>4", "a=1", "a-b", "a#b", "a(b)\"c\"", " a", "a ", "  a   b  ",
            "=1_2", "=1#2", "_", "9", "(((((a)(b)))))", "a|b|c|d|e|f|g|h|i|j|k|l",
            "-a|b|c|d|e|f|g|h|i|j|k|l", "=1=1=1=1=1=1=1=1=1=1=1=1",
            "#a#a#a#a#a#a#a#a#a#a#a#a", "\"#a#a#a#a#a#a#a#a#a#a#a\"", "aaaaaaaaaaaaaaaaaaaaaaaa"};
        for (String query : good) {
            due("search for " + query, begin(new PostIndex(), query), 0);
        }
    }

    /** As many parts as 24 characters hold, of each kind: none is too many. */
    private static void longestQueries() {
        promise = 11;
        PostIndex x = new PostIndex();
        add(x, 1, 5, "a");
        add(x, 2, 6, "b");
        add(x, 1, 7, "b c");
        writeAll(x);
        due("nine parts, eight with -", hits(x, "a-a-a-a-a-a-a-a-a"), "");
        due("nine other parts, eight with -", hits(x, "b-a-a-a-a-a-a-a-a"), "2 1 ");
        due("twelve parts with -", hits(x, "-a-a-a-a-a-a-a-a-a-a-a-a"), "2 1 ");
        due("twelve parts with -, the last one fails", hits(x, "-a-a-a-a-a-a-a-a-a-a-a-c"), "1 ");
        due("thirteen parts, words and filters", hits(x, "a=1a=1a=1a=1a=1a=1a"), "0 ");
        due("sixteen parts, words and filters", hits(x, "=1b=1b=1b=1b=1b=1b=1b=1b"), "2 ");
        due("sixteen parts, the last one fails", hits(x, "=1b=1b=1b=1b=1b=1b=1b=1c"), "2 ");
        due("sixteen parts, filters last", hits(x, "b>5b>5b>5b>5b>5b>5b>5b>6"), "2 ");
        due("words, filters and -", hits(x, "-a=1b-a=1b-a=1b-a=1b-a=1"), "2 ");
        due("twelve alls with -", hits(x, "-b|c|c|c|c|c|c|c|c|c|c|c"), "2 0 ");
        due("eight alls with -", hits(x, "-b|-c|-b|-c|-b|-c|-b|-c"), "1 0 ");
        due("- before each bracket", hits(x, "-(-(-(-(-(-(-a-a))))))-a"), "2 1 ");
        due("open brackets behind parts", hits(x, "b(-a(b(-a(-a(b(-a))))))"), "2 1 ");
        due("open brackets behind alls", hits(x, "c|(c|(c|(c|(c|(c|a)))))"), "2 0 ");
        due("open brackets behind parts of alls", hits(x, "z|b(z|b(z|b(z|b(c))))"), "2 ");
    }

    private static void malformed() {
        promise = 11;
        String[] bad = {"", " ", "                        ", "|", "a|", "|a", "a||b", "-", "a -", "-|a", "a-|b", "\"", "\"\"",
            "\" \"", "\"a", "a\"", "\"a\"b\"", "\"a|b\"", "\"-a\"", "\"(a)\"", "\"=1\"", "\"a #\"", "(", ")", "()", "(a", "a)",
            "(a))", "((a)", "(a|)", "(|a)", "(-)", "(((((((a)))))))", "((((((a(b)))))))", "#", "@", "a #", "# a", "##a",
            "#@a", "a#", "=", "<", ">", "= 1", "=a", "=-1", "==1", "<>1", "=1234567890", "=0000000000", "<1234567890a", "a,b",
            "a.", "a!", "'a'", "a&b", "a+b", "a*", "a/b", "a:b", "a;", "a?", "[a]", "{a}", "a\\", "a^", "a`", "a~", "a%", "a$"};
        for (String query : bad) {
            PostIndex x = new PostIndex();
            due("search for " + query, begin(x, query), -1);
            due("the draft stays", x.length(), query.length());
            due("no search was begun", x.close(0), false);
        }
    }

    private static void next() {
        promise = 12;
        PostIndex x = new PostIndex();
        addWritten(x, 4, "a");
        due("search", begin(x, "a"), 0);
        for (int place : WRONG_PLACES) {
            due("next " + place, x.next(place), -1);
        }
        due("no search in it", x.next(1), -1);
        due("next", x.next(0), 3);
        x.erase(2);
        addWritten(x, 1, "a");
        due("past an erased post, not back to a new one", x.next(0), 1);
        x.pack(6);
        due("in a packed segment", x.next(0), 0);
        due("none", x.next(0), -1);
        due("none again", x.next(0), -1);
        x.close(0);
        due("closed", x.next(0), -1);
        due("search", begin(x, "a"), 0);
        due("next", x.next(0), 4);
        addWritten(x, 7, "a");
        due("next", x.next(0), 3);
        add(x, 0, 0, "a");
        due("while segment 3 has not begun", x.next(0), 1);
        x.write(1);
        due("its segment is retired", x.next(0), -1);
        nextOfTwoSearches();
    }

    private static void nextOfTwoSearches() {
        PostIndex x = new PostIndex();
        addWritten(x, 3, "a");
        begin(x, "a");
        begin(x, "a");
        begin(x, "a");
        due("next", x.next(1), 2);
        due("next", x.next(1), 1);
        due("each has its own bound", x.next(0), 2);
        due("each has its own bound", x.next(2), 2);
        due("each has its own bound", x.next(1), 0);
    }

    private static void matching() {
        promise = 12;
        PostIndex x = new PostIndex();
        add(x, 1, 10, "a b");
        add(x, 2, 20, "B #c");
        add(x, 3, 30, "c a,b");
        writeAll(x);
        due("a word", hits(x, "a"), "2 0 ");
        due("capitals", hits(x, "A"), "2 0 ");
        due("capitals in the post", hits(x, "b"), "2 1 0 ");
        due("a word with #", hits(x, "#C"), "1 ");
        due("a word without #", hits(x, "c"), "2 ");
        due("part of a token only", hits(x, "ab"), "");
        due("all", hits(x, "a c"), "2 ");
        due("any", hits(x, "#c|c"), "2 1 ");
        due("not", hits(x, "-c"), "1 0 ");
        due("not not", hits(x, "--c"), "2 ");
        due("not not not", hits(x, "- --c"), "1 0 ");
        due("all goes before any", hits(x, "#c|c a"), "2 1 ");
        due("any in brackets", hits(x, "(#c|c)a"), "2 ");
        due("not of brackets", hits(x, "-(#c|c)"), "0 ");
        due("not holds for one part", hits(x, "-c b"), "1 0 ");
        due("not at the end", hits(x, "b -c"), "1 0 ");
        due("three alls", hits(x, "z|#c|a -c"), "1 0 ");
        due("three parts", hits(x, "a b c"), "2 ");
        due("deep brackets", hits(x, "((((((a)b)c)|#c)))"), "2 1 ");
        due("all twelve words", hits(x, "b b b b b b b b b b b b"), "2 1 0 ");
        due("twelve words, one fails", hits(x, "b b b b b b b b b b b z"), "");
        due("nothing of the query before", hits(x, "z"), "");
        queriesStay();
    }

    private static void queriesStay() {
        PostIndex x = new PostIndex();
        addWritten(x, 2, "a");
        addWritten(x, 1, "b");
        begin(x, "a");
        begin(x, "b");
        due("malformed", begin(x, "c |"), -1);
        x.clear();
        due("left of the first query", x.left(0), 2);
        due("left of the second query", x.left(1), 1);
        begin(x, "a|b");
        due("refused", begin(x, "c"), -2);
        due("left of the first query", x.left(0), 2);
        due("left of the second query", x.left(1), 1);
        due("left of the third query", x.left(2), 3);
        x.clear();
        x.close(1);
        begin(x, "-b");
        due("malformed", begin(x, "("), -1);
        due("left of the new query", x.left(1), 2);
        due("left of the third query", x.left(2), 3);
        due("next of the first query", x.next(0), 1);
    }

    private static void rowsOfWords() {
        promise = 12;
        PostIndex x = new PostIndex();
        add(x, 0, 0, "a b a c");
        add(x, 0, 0, "0 1 2 3 4 5 6 7 8 9 a");
        add(x, 0, 0, "c c c c c c c c c c c c");
        writeAll(x);
        due("one word", hits(x, "\"b\""), "0 ");
        due("two words", hits(x, "\"a b\""), "0 ");
        due("not the first a", hits(x, "\"A C\""), "0 ");
        due("the wrong order", hits(x, "\"b c\""), "");
        due("three words", hits(x, "\"b a c\""), "0 ");
        due("to the end and no further", hits(x, "\"c a\""), "");
        due("places 6 and 7", hits(x, "\"6 7\""), "1 ");
        due("a later token has place 7", hits(x, "\"6 9\""), "1 ");
        due("a later token has place 7", hits(x, "\"5 6 a\""), "1 ");
        due("place 8 is none", hits(x, "\"7 8\""), "");
        due("both have place 7", hits(x, "\"8 8\""), "");
        due("eight places", hits(x, "\"c c c c c c c c\""), "2 ");
        due("nine places", hits(x, "\"c c c c c c c c c\""), "");
        due("eleven words", hits(x, "\"c c c c c c c c c c c\""), "");
        due("a row and a word behind it", hits(x, "\"a b\"c"), "0 ");
        due("a word and a row behind it", hits(x, "c\"a b\""), "0 ");
        due("two rows", hits(x, "\"a b\"\"a c\""), "0 ");
        due("not a row", hits(x, "-\"c c\""), "1 0 ");
        rowsStayInTheirPost();
    }

    private static void rowsStayInTheirPost() {
        PostIndex x = new PostIndex();
        add(x, 0, 0, "0 0 0 0 0 0 0 a");
        add(x, 0, 0, "b a");
        writeAll(x);
        due("a row over two posts", hits(x, "\"a b\""), "");
        due("a row in one post", hits(x, "\"b a\""), "1 ");
    }

    private static void filters() {
        promise = 12;
        PostIndex x = new PostIndex();
        add(x, 1, 5, "5");
        add(x, 5, 6, "1");
        add(x, 0, -1, "");
        add(x, 9, Integer.MAX_VALUE, "");
        writeAll(x);
        due("author", hits(x, "=1"), "0 ");
        due("author with zeros", hits(x, "=000000001"), "0 ");
        due("author 0", hits(x, "=0"), "2 ");
        due("no such author", hits(x, "=10"), "");
        due("before", hits(x, "<6"), "2 0 ");
        due("after", hits(x, ">5"), "3 1 ");
        due("at that time itself", hits(x, "<5"), "2 ");
        due("at that time itself", hits(x, ">6"), "3 ");
        due("below zero", hits(x, "<0"), "2 ");
        due("nine digits", hits(x, ">999999999"), "3 ");
        due("nine digits", hits(x, "<999999999"), "2 1 0 ");
        due("a filter and a word behind it", hits(x, "=1_|<6 5"), "0 ");
        due("not a filter", hits(x, "-=1 ->6"), "2 1 ");
        addWritten(x, 4, "");
        due("the filter is about each post", hits(x, "=9|=1"), "3 0 ");
    }

    private static void left() {
        promise = 13;
        PostIndex x = new PostIndex();
        addWritten(x, 4, "a");
        add(x, 0, 0, "b");
        writeAll(x);
        begin(x, "a");
        for (int place : WRONG_PLACES) {
            due("left " + place, x.left(place), -1);
        }
        due("no search in it", x.left(1), -1);
        due("left", x.left(0), 4);
        due("left changes nothing", x.left(0), 4);
        due("next", x.next(0), 3);
        due("left", x.left(0), 3);
        x.erase(1);
        due("left", x.left(0), 2);
        x.erase(3);
        due("an erased post behind the bound", x.left(0), 2);
        addWritten(x, 7, "a");
        due("newer posts don't count", x.left(0), 2);
        add(x, 0, 0, "");
        due("left before segment 3 begins", x.left(0), 2);
        x.write(1);
        due("left when the segment is retired", x.left(0), 0);
        due("next", x.next(0), -1);
        x.close(0);
        due("left", x.left(0), -1);
    }

    private static void close() {
        promise = 14;
        PostIndex x = new PostIndex();
        for (int place : WRONG_PLACES) {
            due("close " + place, x.close(place), false);
        }
        due("no search in it", x.close(0), false);
        begin(x, "-a");
        begin(x, "-a");
        begin(x, "-a");
        due("close", x.close(1), true);
        due("close again", x.close(1), false);
        due("left of the closed one", x.left(1), -1);
        due("left of another one", x.left(0), 0);
        due("left of another one", x.left(2), 0);
        due("the place is free", begin(x, "a"), 1);
        due("close", x.close(0), true);
        due("close", x.close(1), true);
        due("close", x.close(2), true);
        due("close again", x.close(2), false);
    }

    private static void form() {
        promise = 15;
        PostIndex x = new PostIndex();
        add(x, 0, 0, "a");
        for (int g : WRONG_SEGMENTS) {
            due("form " + g, x.form(g), -1);
        }
        due("a waiting post begins nothing", x.form(0), -1);
        x.write(1);
        due("the first unit begins it", x.form(0), 0);
        x.write(1);
        addWritten(x, 2, "a");
        add(x, 0, 0, "a");
        x.write(1);
        due("not full yet", x.form(0), 0);
        x.write(1);
        due("full", x.form(0), 1);
        due("the next one has not begun", x.form(1), -1);
        x.pack(1);
        due("rewritten", x.form(0), 2);
        add(x, 0, 0, "");
        x.write(1);
        due("begun by a publication alone", x.form(1), 0);
        x.pack(1);
        due("packed", x.form(0), 3);
        addWritten(x, 8, "a");
        due("retired", x.form(0), 4);
        due("full", x.form(1), 1);
        due("full", x.form(2), 1);
        due("begun", x.form(3), 0);
        addWritten(x, 11, "a");
        due("retired", x.form(2), 4);
        due("full", x.form(3), 1);
        due("full", x.form(4), 1);
        due("the last one", x.form(5), 1);
        for (int g : WRONG_SEGMENTS) {
            due("form " + g, x.form(g), -1);
        }
    }

    private static void size() {
        promise = 16;
        PostIndex x = new PostIndex();
        due("not begun", x.size(0), -1);
        add(x, 0, 0, "a b");
        due("not begun", x.size(0), -1);
        x.write(1);
        due("one term", x.size(0), 2);
        x.write(1);
        due("two terms", x.size(0), 4);
        x.write(1);
        due("published", x.size(0), 4);
        addWritten(x, 11, "a b");
        for (int g : WRONG_SEGMENTS) {
            due("size " + g, x.size(g), -1);
        }
        due("not begun", x.size(3), -1);
        due("live", x.size(0), 12);
        add(x, 0, 0, "");
        x.write(1);
        due("retired", x.size(0), -1);
        due("live", x.size(1), 12);
        due("empty", x.size(3), 0);
        x.pack(2);
        due("rewritten, not exchanged", x.size(1), 12);
        x.pack(1);
        due("packed", x.size(1), 2 + 2 + 2 + 2 + 2 + 2 + 2 + 2);
    }

    private static void slices() {
        promise = 16;
        PostIndex x = new PostIndex();
        int[] cells = {2, 2, 6, 6, 6, 14, 14, 14};
        for (int post = 0; post < 4; post++) {
            add(x, 0, 0, "a a a a a a a a a a a a");
        }
        for (int i = 0; i < 8; i++) {
            x.write(1);
            due("size with postings " + (i + 1), x.size(0), cells[i]);
        }
        for (int i = 8; i < 12; i++) {
            x.write(1);
            due("a pair counts once", x.size(0), 14);
        }
        x.write(1);
        int[] more = {14, 14, 14, 14, 22, 22, 22, 22};
        for (int i = 0; i < 8; i++) {
            x.write(1);
            due("size with postings " + (i + 9), x.size(0), more[i]);
        }
        x.write(5);
        int[] most = {22, 22, 22, 30, 30, 30, 30, 30};
        for (int i = 0; i < 8; i++) {
            x.write(1);
            due("size with postings " + (i + 17), x.size(0), most[i]);
        }
        x.write(5);
        int[] last = {30, 30, 38, 38, 38, 38, 38, 38};
        for (int i = 0; i < 8; i++) {
            x.write(1);
            due("size with postings " + (i + 25), x.size(0), last[i]);
        }
        x.write(5);
        due("form", x.form(0), 1);
        x.pack(2);
        due("packed: 32 differences of 1", x.size(0), 32);
    }

    private static void pieces() {
        promise = 16;
        // A single posting at number 8 * post + place has the difference 32 minus it.
        due("difference 1", packedSize("", "", "", "0 0 0 0 0 0 0 a"), 1 + seven0());
        due("difference 3", packedSize("", "", "", "0 0 0 0 0 a"), 1 + zeros(5, 24));
        due("difference 4", packedSize("", "", "", "0 0 0 0 a"), 2 + zeros(4, 24));
        due("difference 15", packedSize("", "", "0 a", ""), 2 + zeros(1, 16));
        due("difference 16", packedSize("", "", "a", ""), 3);
        due("difference 32", packedSize("a", "", "", ""), 3);
        due("8 and 24", packedSize("a", "", "", "a"), 2 + 3);
        due("8 and 8 and 16", packedSize("a", "", "a", "a"), 2 + 2 + 3);
        due("2 and 15", packedSize("", "0 0 0 0 0 0 0 a", "", "0 0 0 0 0 0 a"), 1 + 2 + zeros(6, 24) + 2 + 6);
        due("2 and 16", packedSize("", "0 0 0 0 0 0 a", "", "0 0 0 0 0 0 a"), 1 + 3 + zeros(6, 24) + 2 + 5);
    }

    private static int seven0() {
        return zeros(7, 24);
    }

    // The pieces of the word 0 at the first places of one post, as the only ones or the first ones of its postings.
    private static int zeros(int count, int first) {
        int difference = 32 - (first + count - 1);
        return (difference < 4 ? 1 : difference < 16 ? 2 : 3) + count - 1;
    }

    private static int packedSize(String... texts) {
        PostIndex x = new PostIndex();
        for (String text : texts) {
            add(x, 0, 0, text);
        }
        writeAll(x);
        for (int i = 0; i < 60 && x.pack(6) > 0; i++) {
            due("published", x.published(), 4);
        }
        due("form", x.form(0), 3);
        return x.size(0);
    }

    private static void terms() {
        promise = 17;
        PostIndex x = new PostIndex();
        due("not begun", x.terms(0), -1);
        add(x, 0, 0, "a A #a @a");
        due("not begun", x.terms(0), -1);
        int[] counts = {1, 1, 2, 3, 3};
        for (int count : counts) {
            x.write(1);
            due("terms", x.terms(0), count);
        }
        add(x, 0, 0, "b a ab");
        writeAll(x);
        due("terms of two posts", x.terms(0), 5);
        x.erase(0);
        due("terms with an erased post", x.terms(0), 5);
        addWritten(x, 2, "");
        x.pack(6);
        due("packed", x.form(0), 3);
        due("terms when packed", x.terms(0), 5);
        addWritten(x, 8, "a");
        due("each segment has its own", x.terms(1), 1);
        for (int g : WRONG_SEGMENTS) {
            due("terms " + g, x.terms(g), -1);
        }
        add(x, 0, 0, "");
        x.write(1);
        due("retired", x.terms(0), -1);
        due("none", x.terms(3), 0);
        mostTerms();
    }

    private static void mostTerms() {
        PostIndex x = new PostIndex();
        add(x, 0, 0, "0 1 2 3 4 5 6 7 8 9 a b");
        add(x, 0, 0, "c d e f g h i j k l m n");
        add(x, 0, 0, "o p q r s t u v w x y z");
        add(x, 0, 0, "#0@0#1@1#2@2#3@3#4@4#5@5");
        writeAll(x);
        due("48 terms", x.terms(0), 48);
        due("48 postings", x.postings(0), 48);
        due("48 slices", x.size(0), 96);
        due("hits of the last one", hits(x, "@5"), "3 ");
    }

    private static void postings() {
        promise = 18;
        PostIndex x = new PostIndex();
        due("not begun", x.postings(0), -1);
        add(x, 0, 0, "a a b a a a a b a b a b");
        due("not begun", x.postings(0), -1);
        int[] counts = {1, 2, 3, 4, 5, 6, 7, 8, 9, 9, 9, 9};
        for (int count : counts) {
            x.write(1);
            due("postings", x.postings(0), count);
        }
        x.write(1);
        add(x, 0, 0, "a a");
        x.write(1);
        due("not published yet", x.postings(0), 10);
        writeAll(x);
        due("of two posts", x.postings(0), 11);
        x.erase(1);
        due("with an erased post", x.postings(0), 11);
        addWritten(x, 2, "");
        x.pack(6);
        due("packed", x.form(0), 3);
        due("postings when packed", x.postings(0), 11);
        addWritten(x, 8, "a");
        due("each segment has its own", x.postings(1), 4);
        for (int g : WRONG_SEGMENTS) {
            due("postings " + g, x.postings(g), -1);
        }
        add(x, 0, 0, "");
        x.write(1);
        due("retired", x.postings(0), -1);
        due("none", x.postings(3), 0);
    }

    private static void typeAll(PostIndex x, String text) {
        for (int i = 0; i < text.length(); i++) {
            due("type " + text.charAt(i), x.type(text.charAt(i)), true);
        }
    }

    private static int add(PostIndex x, int author, int time, String text) {
        typeAll(x, text);
        return x.post(author, time);
    }

    private static void addWritten(PostIndex x, int count, String text) {
        for (int i = 0; i < count; i++) {
            add(x, 0, 0, text);
            writeAll(x);
        }
    }

    // Four posts wait at most, of thirteen units at most; the bound ends a test whose writer never does.
    private static void writeAll(PostIndex x) {
        int done = 6;
        for (int i = 0; i < 60 && done == 6; i++) {
            done = x.write(6);
        }
    }

    private static int begin(PostIndex x, String query) {
        typeAll(x, query);
        return x.search();
    }

    private static String hits(PostIndex x, String query) {
        x.clear();
        int place = begin(x, query);
        if (place < 0) {
            return "refused " + place;
        }
        int left = x.left(place);
        StringBuilder all = new StringBuilder();
        int hit = x.next(place);
        for (int i = 0; i < 24 && hit >= 0; i++) {
            all.append(hit).append(' ');
            left--;
            hit = x.next(place);
        }
        due("left agrees with next", left, 0);
        x.close(place);
        return all.toString();
    }

    private static void due(String what, Object got, Object want) {
        if (!got.equals(want)) {
            wrong++;
            System.out.println("promise " + promise + ": " + what + " answered " + got + ", due is " + want);
        }
    }
}
