/** One test for each sentence of "Terms" about queries and searches that names a boundary case. */
public final class QueryTest {
    private static final String WORD_CHARACTERS = "abcdefghijklmnopqrstuvwxyzABCDEFGHIJKLMNOPQRSTUVWXYZ0123456789_";

    public static void main(String[] args) {
        spaces();
        words();
        filterPieces();
        singleCharacters();
        forms();
        mostParts();
        otherCharacters();
        nothingFollows();
        tenDigits();
        nothingAtAll();
        openBrackets();
        withinQuotes();
        matchesWord();
        matchesRow();
        matchesAuthor();
        matchesTime();
        matchesNot();
        matchesAll();
        matchesAny();
        hits();
        searchPlaces();
        mostSearches();
        Due.end();
    }

    private static void wellFormed(String... queries) {
        for (String query : queries) {
            Index x = new Index();
            Due.same("search for '" + query + "'", x.begin(query), 0);
            Due.same("length", x.x().length(), 0);
            Due.same("left", x.x().left(0), 0);
        }
    }

    private static void malformed(String... queries) {
        for (String query : queries) {
            Index x = new Index();
            Due.same("search for '" + query + "'", x.begin(query), -1);
            Due.same("length", x.x().length(), query.length());
            Due.same("left", x.x().left(0), -1);
        }
    }

    private static void spaces() {
        Due.sentence("Terms",
                "A QUERY is a text, read in pieces from left to right; spaces between pieces are left out.");
        wellFormed("a b", "a          b", " a", "a ", " a ", "a                      b", "                       a",
                "a                       ", "a | b", "- a", "- - a", "-  ( a )", "( a )", "\" a \"", "\"a   b\"",
                " =1 ", "=1 <2 >3", "( ( ( ( ( a ) ) ) ) )", "a |- b");
        malformed("# a", "@ a", "= 1", "< 1", "> 1", "=1 23456789 0 |");
        Index x = new Index().written("ab", "a b", "a", "#a");
        Due.same("hits of ab", x.hits("ab"), "0");
        Due.same("hits of a b: two words", x.hits("a b"), "1");
        Due.same("hits with many spaces", x.hits("  a     -    b  "), "2");
        Due.same("hits of a row with spaces", x.hits("\"  a     b  \""), "1");
        Due.same("hits of a row without its spaces", x.hits("\"ab\""), "0");
        Due.same("hits of =0 1: a filter and a word", x.hits("=0 1"), "");
        Due.same("hits of =0 a: a filter and a word", x.hits("=0 a"), "2 1");
    }

    private static void words() {
        Due.sentence("Terms", "a word: one or more word characters, as many as follow, or # or @ and such a run");
        for (char c : WORD_CHARACTERS.toCharArray()) {
            wellFormed("" + c, "#" + c, "@" + c, "a" + c, c + "a");
        }
        wellFormed("aaaaaaaaaaaaaaaaaaaaaaaa", "#aaaaaaaaaaaaaaaaaaaaaaa", "@aaaaaaaaaaaaaaaaaaaaaaa", "a#b", "a@b",
                "#a#b", "@a#b");
        malformed("#", "@", "##a", "#@a", "@#a", "a#", "a@", "a#@b", "#-a", "@\"a\"", "#(a)");
        Index x = new Index().written("ab", "a #b", "a b", "abcdefghijklmnopqrstuvwx");
        Due.same("as many as follow", x.hits("ab"), "0");
        Due.same("a word and a word with #", x.hits("a#b"), "1");
        Due.same("a word with # only", x.hits("#b"), "1");
        Due.same("not part of a word", x.hits("b"), "2");
        Due.same("24 characters", x.hits("abcdefghijklmnopqrstuvwx"), "3");
        Due.same("23 characters", x.hits("abcdefghijklmnopqrstuvw"), "");
    }

    private static void filterPieces() {
        Due.sentence("Terms",
                "a filter: one of = < > and directly behind it one or more digits, as many as follow, at most nine");
        for (String sign : new String[] {"=", "<", ">"}) {
            String digits = "";
            for (int count = 1; count <= 9; count++) {
                digits += 10 - count;
                wellFormed(sign + digits, "-" + sign + digits, "(" + sign + digits + ")", sign + digits + "a",
                        sign + digits + "_");
                malformed(sign + " " + digits, sign + "-" + digits, sign + "a" + digits);
            }
            wellFormed(sign + "0", sign + "9", sign + "000000000", sign + "999999999", sign + "1" + sign + "2");
            malformed(sign, sign + "a", sign + "_1", sign + "#1", sign + sign + "1", sign + "\"1\"", sign + "(1)",
                    "1" + sign);
        }
        malformed("<=1", ">=1", "<>1", "=<1");
        Index x = new Index();
        for (int time : new int[] {1, 12, 123456789}) {
            x.x().post(1, time);
            x.wrote(1);
        }
        Due.same("as many digits as follow", x.hits(">11"), "2 1");
        Due.same("as many digits as follow", x.hits("<123456789"), "1 0");
        Due.same("as many digits as follow", x.hits(">12345678"), "2");
        Due.same("an author of nine digits", x.hits("=000000001"), "2 1 0");
        Due.same("an author of nine other digits", x.hits("=100000000"), "");
        Index word = new Index().written("a", "_1", "1");
        Due.same("a word begins where the digits end", word.hits("=0a"), "0");
        Due.same("a word begins where the digits end", word.hits("=0_1"), "1");
    }

    private static void singleCharacters() {
        Due.sentence("Terms", "and the single characters | - \" ( ).");
        wellFormed("a|b", "a-b", "a\"b\"", "a(b)", "\"a\"\"b\"", "(a)(b)", "a|-b", "--a", "((a))", "\"a\"|\"b\"",
                "(a)|(b)", "-\"a\"", "-(a)", "-=1", "a-b|c-d");
        malformed("||", "a||b", "--", "a--", "\"\"", "()", ")(", "a)(b");
    }

    private static void forms() {
        Due.sentence("Terms",
                "any: one all, or several with | between them. all: one or more parts. part: a one, or - before a "
                + "part. one: a word; or \" and one or more words and \"; or ( and any and ); or a filter.");
        wellFormed("a", "a|b", "a|b|c|d|e|f|g|h|i|j|k|l", "a b c d e f g h i j k l", "-a", "-----------------------a",
                "\"a\"", "\"a b\"", "\"a b c d e f g h i j k\"", "(a)", "(a|b)", "(a b)", "(-a)", "(\"a\")", "(=1)",
                "((a))", "=1", "<1", ">1");
        malformed("|", "|a", "a|", "a| |b", "|a|b", "a|b|", "(|a)", "(a|)", "(a||b)", "-", "a-", "-|a", "a|-", "a -|b",
                "(-)", "(a-)", "-)", "-(", "(a", "a)", "((a)", "(a))", "(", ")", "( )", "a()", "()a", "-()", "\"",
                "\" \"", "\"a", "a\"", "\"a\"b\"",
                "\"a\"\"", "-----------------------", "a|\"\"", "(\"a)\"", "\"(a\")");
    }

    /** No query that 24 characters can hold has too many parts. */
    private static void mostParts() {
        Due.sentence("Terms", "all: one or more parts.");
        Index x = new Index().written("a", "b");
        x.post(1, 7, "b c");
        x.writeAll();
        Due.same("twelve parts with -", x.hits("-a-a-a-a-a-a-a-a-a-a-a-a"), "2 1");
        Due.same("twelve parts with -, the last one fails", x.hits("-a-a-a-a-a-a-a-a-a-a-a-c"), "1");
        Due.same("twelve filters", x.hits("=1=1=1=1=1=1=1=1=1=1=1>6"), "2");
        Due.same("twelve filters, the last one fails", x.hits("=0=0=0=0=0=0=0=0=0=0=0>6"), "");
        Due.same("sixteen parts, filters and words", x.hits("=1b=1b=1b=1b=1b=1b=1b=1c"), "2");
        Due.same("sixteen parts, the last one fails", x.hits("=1b=1b=1b=1b=1b=1b=1b=1a"), "");
        Due.same("twelve words with #", x.hits("#a#a#a#a#a#a#a#a#a#a#a#a"), "");
        Due.same("- before each all", x.hits("-b|-c|-b|-c|-b|-c|-b|-c"), "1 0");
        Due.same("twelve alls", x.hits("-b|c|c|c|c|c|c|c|c|c|c|c"), "2 0");
        Due.same("rows of one word", x.hits("\"b\"\"b\"\"b\"\"b\"\"b\"\"c\""), "2");
        Due.same("brackets behind parts", x.hits("b(-a(b(-a(-a(b(-a))))))"), "2 1");
        Due.same("brackets behind alls", x.hits("c|(c|(c|(c|(c|(c|a)))))"), "2 0");
        Due.same("brackets behind parts of alls", x.hits("z|b(z|b(z|b(z|b(c))))"), "2");
        Due.same("brackets one by one", x.hits("(b)(b)(b)(b)(b)(b)(b)(c)"), "2");
    }

    private static void otherCharacters() {
        Due.sentence("Terms", "What is not of this form (other characters, ");
        for (char c = 32; c <= 126; c++) {
            boolean ofWord = WORD_CHARACTERS.indexOf(c) >= 0;
            formed(ofWord, "" + c);
            formed(ofWord || c == ' ', "a" + c);
            formed(ofWord || " -#@".indexOf(c) >= 0, c + "a");
            formed(ofWord || " -|#@".indexOf(c) >= 0, "a" + c + "a");
            formed(ofWord || " -#@=<>".indexOf(c) >= 0, c + "1");
            formed(ofWord || " \"".indexOf(c) >= 0, c + "a" + c);
            formed(ofWord || " -|#@".indexOf(c) >= 0, "(a" + c + "a)");
            formed(ofWord || " #@".indexOf(c) >= 0, "\"a" + c + "a\"");
        }
    }

    private static void formed(boolean well, String query) {
        if (well) {
            wellFormed(query);
        } else {
            malformed(query);
        }
    }

    private static void nothingFollows() {
        Due.sentence("Terms", "a # @ = < > without what must follow, ");
        for (char c : "#@=<>".toCharArray()) {
            malformed("" + c, "a" + c, "a " + c, c + " ", c + " a", c + " 1", c + "|a", "a|" + c, c + "-a", "-" + c,
                    "(" + c + ")", c + "(a)", "\"" + c + "\"", "\"a" + c + "\"", c + "" + c, c + "" + c + "1",
                    "                       " + c);
        }
        malformed("=a", "<a", ">a", "=#1", "<@1", ">_");
    }

    private static void tenDigits() {
        Due.sentence("Terms", "ten digits, ");
        for (String sign : new String[] {"=", "<", ">"}) {
            wellFormed(sign + "123456789", sign + "000000000", sign + "123456789 0", sign + "123456789a0");
            malformed(sign + "1234567890", sign + "0000000000", sign + "0000000001", sign + "9999999999",
                    sign + "12345678901", sign + "1234567890a", sign + "00000000000000000000001",
                    "(" + sign + "1234567890)", "a " + sign + "1234567890");
        }
        // Digits that are no filter are a word, however many they are.
        wellFormed("1234567890", "#1234567890", "123456789012345678901234", "\"1234567890\"");
    }

    private static void nothingAtAll() {
        Due.sentence("Terms", "nothing at all)");
        malformed("", " ", "  ", "                        ");
        Index x = new Index().written("");
        Due.same("search on an empty draft with posts there", x.x().search(), -1);
        x.typed("a").x().clear();
        Due.same("search on a draft that was cleared", x.x().search(), -1);
        x.searching("a");
        Due.same("search on a draft that a search has taken", x.x().search(), -1);
        x.posted("a");
        Due.same("search on a draft that a post has taken", x.x().search(), -1);
    }

    private static void openBrackets() {
        Due.sentence("Terms", "or has more than six ( open at a time, is MALFORMED.");
        String[] opens = {"", "(", "((", "(((", "((((", "(((((", "((((((", "(((((((", "((((((((", "(((((((((",
                "((((((((((", "((((((((((("};
        for (int open = 1; open < opens.length; open++) {
            String closes = opens[open].replace('(', ')');
            formed(open <= 6, opens[open] + "a" + closes);
            malformed(opens[open], opens[open] + "a", closes, "a" + closes);
        }
        wellFormed("((((((a))))))((((a))))", "(((a)))(((a)))(((a)))", "(a)(a)(a)(a)(a)(a)(a)(a)",
                "(((((a)(a)(a)(a)))))", "((((((a)(a)(a)(a))))))", "(((((a)|(a)|(a)|(a)))))", "-(-(-(-(-(-(-a))))))",
                "((((((a|a))))))(a)");
        malformed("((((((a(a)))))))", "((((((a)(((a))))))))", "-(-(-(-(-(-(-(a)))))))", "(a)(((((((a)))))))",
                "((((((a|(a)))))))");
        Index x = new Index().written("a", "b", "a b", "");
        Due.same("hits in six brackets", x.hits("((((((a))))))"), "2 0");
        Due.same("hits in six brackets with -", x.hits("-(-(-(-(-(-(a b))))))"), "2");
        Due.same("hits in five brackets with -", x.hits("-(-(-(-(-(a b)))))"), "3 1 0");
        Due.same("hits in six brackets, parts on each level", x.hits("(a|(b|(z|(z|(z|(z))))))"), "2 1 0");
    }

    private static void withinQuotes() {
        Due.sentence("Terms", "(Within \" only words may stand.)");
        wellFormed("\"a\"", "\"#a\"", "\"@a\"", "\"a #b @c 1 _\"", "\"1\"");
        for (String piece : new String[] {"|", "-", "(", ")", "(a)", "=1", "<1", ">1", "-a", "a|b", ",", "#"}) {
            malformed("\"" + piece + "\"", "\"a" + piece + "\"", "\"a " + piece + " b\"", "\"" + piece + " a\"");
        }
    }

    private static void matchesWord() {
        Due.sentence("Terms", "A post MATCHES a word (capitals as small) if it is one of its tokens");
        Index x = new Index().written("First middle LAST", "#first", "firs", "irst lastt");
        Due.same("the first token", x.hits("FIRST"), "0");
        Due.same("a middle token", x.hits("middle"), "0");
        Due.same("the last token", x.hits("last"), "0");
        Due.same("with its #", x.hits("#First"), "1");
        Due.same("a beginning", x.hits("firs"), "2");
        Due.same("an end", x.hits("irst"), "3");
        Due.same("no token", x.hits("fir"), "");
        Due.same("no token", x.hits("@first"), "");
        Index twelve = new Index().written("0 1 2 3 4 5 6 7 8 9 a b");
        for (char c : "0123456789ab".toCharArray()) {
            Due.same("token " + c + " of twelve", twelve.hits("" + c), "0");
        }
        Due.same("an empty post has no token", new Index().written("").hits("a"), "");
        // The same word in each segment, packed or not.
        Index wide = new Index().written(12, "a b").packed(4);
        Due.same("in three segments", wide.hits("b"), "11 10 9 8 7 6 5 4 3 2 1 0");
    }

    private static void matchesRow() {
        Due.sentence("Terms",
                "words in \" if there is a number p so that the first one has place p in the post, the second one "
                + "place p + 1, and so on");
        Index x = new Index().written("a b c", "a c b", "b c", "a a b");
        Due.same("one word", x.hits("\"a\""), "3 1 0");
        Due.same("two words", x.hits("\"a b\""), "3 0");
        Due.same("two other words", x.hits("\"b c\""), "2 0");
        Due.same("three words", x.hits("\"a b c\""), "0");
        Due.same("the same word twice", x.hits("\"a a\""), "3");
        Due.same("the same word three times", x.hits("\"a a a\""), "");
        Due.same("one more than there are", x.hits("\"a b c c\""), "");
        Due.same("the last and the first", x.hits("\"c a\""), "");
        Index far = new Index().written("0 1 2 3 4 5 6 7 8 9 x x", "x x x x x x x x x x x x", "x x x x x x x",
                "x x x x x x x x");
        Due.same("places 6 and 7", far.hits("\"6 7\""), "0");
        Due.same("place 6 and a later token", far.hits("\"6 x\""), "0");
        Due.same("place 7 and none behind it", far.hits("\"7 8\""), "");
        Due.same("place 7 and none behind it", far.hits("\"9 x\""), "");
        Due.same("the same place twice", far.hits("\"8 8\""), "");
        Due.same("two of one word", far.hits("\"x x\""), "3 2 1");
        Due.same("seven of one word", far.hits("\"x x x x x x x\""), "3 2 1");
        Due.same("eight of one word", far.hits("\"x x x x x x x x\""), "3 1");
        Due.same("nine of one word", far.hits("\"x x x x x x x x x\""), "");
        Due.same("eleven of one word", far.hits("\"x x x x x x x x x x x\""), "");
        Index next = new Index().written("0 1 2 3 4 5 6 a", "b", "a", "b c");
        Due.same("a row doesn't go on in the next post", next.hits("\"a b\""), "");
        Due.same("nor back in the one before", next.hits("\"b a\""), "");
        Index wide = new Index();
        for (int pair = 0; pair < 12; pair++) {
            wide.written("x a b", "a x b");
        }
        Due.same("in every second post", wide.hits("\"a b\""), "22 20 18 16 14 12");
        wide.packAll();
        Due.same("in every second post, packed", wide.hits("\"a b\""), "22 20 18 16 14 12");
    }

    private static void matchesAuthor() {
        Due.sentence("Terms", "=n if its author is n");
        Index x = new Index();
        for (int author : new int[] {0, 1, 9, 1}) {
            x.x().post(author, 1 - author);
            x.wrote(1);
        }
        Due.same("author 0", x.hits("=0"), "0");
        Due.same("author 1", x.hits("=1"), "3 1");
        Due.same("author 9", x.hits("=9"), "2");
        Due.same("author 2", x.hits("=2"), "");
        Due.same("author 10", x.hits("=10"), "");
        Due.same("author 11", x.hits("=11"), "");
        Due.same("author 01", x.hits("=01"), "3 1");
        Due.same("author 90", x.hits("=90"), "");
        Due.same("the greatest", x.hits("=999999999"), "");
    }

    private static void matchesTime() {
        Due.sentence("Terms", "<n if its time is less than n, >n if it is greater than n");
        Index x = new Index();
        int[] times = {6, 7, 8, 0, -1, Integer.MIN_VALUE, Integer.MAX_VALUE, 1000000000};
        for (int time : times) {
            x.x().post(7, time);
            x.wrote(1);
        }
        for (int n : new int[] {0, 1, 6, 7, 8, 9, 999999999}) {
            StringBuilder less = new StringBuilder();
            StringBuilder greater = new StringBuilder();
            for (int post = times.length - 1; post >= 0; post--) {
                less.append(times[post] < n ? post + " " : "");
                greater.append(times[post] > n ? post + " " : "");
            }
            Due.same("less than " + n, x.hits("<" + n), less.toString().trim());
            Due.same("greater than " + n, x.hits(">" + n), greater.toString().trim());
        }
        Due.same("neither less nor greater", x.hits("-<7->7"), "1");
    }

    private static void matchesNot() {
        Due.sentence("Terms", "- and a part if it doesn't match the part");
        Index x = new Index().written("a b", "b", "");
        x.post(3, 3, "a");
        x.writeAll();
        Due.same("not a word", x.hits("-a"), "2 1");
        Due.same("not a row", x.hits("-\"a b\""), "3 2 1");
        Due.same("not a filter", x.hits("-=3"), "2 1 0");
        Due.same("not a filter", x.hits("-<3"), "3");
        Due.same("not what is in brackets", x.hits("-(a|b)"), "2");
        Due.same("not what is in brackets", x.hits("-(a b)"), "3 2 1");
        Due.same("two -", x.hits("--a"), "3 0");
        Due.same("three -", x.hits("---a"), "2 1");
        Due.same("22 -", x.hits("----------------------a"), "3 0");
        Due.same("23 -", x.hits("-----------------------a"), "2 1");
        Due.same("only the part behind it", x.hits("-a b"), "1");
        Due.same("only the part behind it", x.hits("b -a"), "1");
        Due.same("only the part behind it", x.hits("-a|b"), "2 1 0");
    }

    private static void matchesAll() {
        Due.sentence("Terms", "an all if it matches each part");
        Index x = new Index().written("a", "b", "a b", "a b c d e f g h i j k l");
        Due.same("one part", x.hits("a"), "3 2 0");
        Due.same("two parts", x.hits("a b"), "3 2");
        Due.same("the other order", x.hits("b a"), "3 2");
        Due.same("the same part twice", x.hits("a a"), "3 2 0");
        Due.same("twelve parts", x.hits("a b c d e f g h i j k l"), "3");
        Due.same("the first of twelve fails", x.hits("z b c d e f g h i j k l"), "");
        Due.same("the last of twelve fails", x.hits("a b c d e f g h i j k z"), "");
        Due.same("a part and what denies it", x.hits("a -a"), "");
        Due.same("brackets before a part", x.hits("(a b)c"), "3");
        Due.same("brackets behind a part", x.hits("c(a b)"), "3");
        Due.same("brackets behind a part", x.hits("a(b|c)"), "3 2");
        Due.same("brackets behind a part", x.hits("a-(b c)"), "2 0");
    }

    private static void matchesAny() {
        Due.sentence("Terms", "an any if it matches one of the alls.");
        Index x = new Index().written("a", "b", "a b", "l");
        Due.same("one all", x.hits("a"), "2 0");
        Due.same("two alls", x.hits("a|b"), "2 1 0");
        Due.same("the first one only", x.hits("a|z"), "2 0");
        Due.same("the last one only", x.hits("z|b"), "2 1");
        Due.same("none", x.hits("z|y"), "");
        Due.same("twelve alls, only the last one", x.hits("m|c|d|e|f|g|h|i|j|k|n|l"), "3");
        Due.same("twelve alls, only the first one", x.hits("l|c|d|e|f|g|h|i|j|k|n|m"), "3");
        Due.same("alls of two parts", x.hits("a b|l z"), "2");
        Due.same("alls of two parts", x.hits("z a|b a|l"), "3 2");
        Due.same("an all or what denies it", x.hits("a|-a"), "3 2 1 0");
        Due.same("brackets behind an all", x.hits("l|(a b)"), "3 2");
        Due.same("brackets before an all", x.hits("(a b)|l"), "3 2");
        Due.same("brackets behind an all", x.hits("z|(z|(a|l))"), "3 2 0");
    }

    private static void hits() {
        Due.sentence("Terms",
                "Its next HIT is the post with the greatest number less than the bound that is live, not erased, and "
                + "matches.");
        Index x = new Index().written("a", "a", "b", "a", "b");
        x.searching("a");
        Due.same("the greatest number", x.x().next(0), 3);
        Due.same("less than the bound", x.x().next(0), 1);
        Due.same("post 0 is one too", x.x().next(0), 0);
        Due.same("none is left", x.x().next(0), -1);
        x.searching("a");
        x.written("a");
        Due.same("not at the bound", x.x().next(1), 3);
        x.x().erase(1);
        Due.same("not erased", x.x().next(1), 0);
        Index wide = new Index().written(12, "a").posted("a");
        wide.searching("a").searching("a").searching("a");
        for (int i = 0; i < 9; i++) {
            Due.same("next before", wide.x().next(0), 11 - i);
        }
        for (int i = 0; i < 8; i++) {
            Due.same("next before", wide.x().next(1), 11 - i);
        }
        wide.x().erase(11);
        wide.x().erase(4);
        wide.wrote(1);
        Due.same("live, below the bound", wide.rest(0), "");
        Due.same("live, below the bound", wide.rest(1), "");
        Due.same("live and not erased", wide.rest(2), "10 9 8 7 6 5");
    }

    private static void searchPlaces() {
        Due.sentence("Terms", "There are three PLACES for searches, 0 .. 2");
        Index x = new Index().written("a", "b", "c");
        for (int place = 0; place < 3; place++) {
            Due.same("search", x.begin("" + (char) ('a' + place)), place);
        }
        Due.same("a fourth search", x.begin("a"), -2);
        x.x().clear();
        for (int place = 0; place < 3; place++) {
            Due.same("hits of place " + place, x.rest(place), "" + place);
        }
        for (int place : new int[] {-1, 3, 4, Integer.MAX_VALUE, Integer.MIN_VALUE}) {
            Due.same("left", x.x().left(place), -1);
            Due.same("next", x.x().next(place), -1);
            Due.same("close", x.x().close(place), false);
        }
    }

    private static void mostSearches() {
        Due.sentence("Terms", "and at most 24 searches are ever begun.");
        Index x = new Index().written("a");
        x.searching("a").searching("a");
        for (int number = 2; number < 24; number++) {
            Due.same("search " + number, x.begin("a"), 2);
            Due.same("close", x.x().close(2), true);
        }
        Due.same("search 24 with a free place", x.begin("a"), -2);
        Due.same("close", x.x().close(0), true);
        Due.same("search 24 with two free places", x.x().search(), -2);
        Due.same("close", x.x().close(1), true);
        Due.same("search 24 with three free places", x.x().search(), -2);
        x.x().clear();
        Due.same("a malformed one", x.x().search(), -1);

        x = new Index();
        for (int number = 0; number < 30; number++) {
            Due.same("a malformed one", x.begin("("), -1);
            x.x().clear();
        }
        for (int number = 0; number < 24; number++) {
            Due.same("search " + number + ", as malformed ones don't count", x.begin("a"), 0);
            Due.same("close", x.x().close(0), true);
        }
        Due.same("search 24", x.begin("a"), -2);
    }
}
