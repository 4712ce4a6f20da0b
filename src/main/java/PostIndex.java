/** An index of short posts that is searched while it grows; the promises are those of ../shared/DOC.md. */
public final class PostIndex {
    private static final int LEAST_CODE = 32;
    private static final int GREATEST_CODE = 126;
    private static final int TEXT_ROOM = 24;
    // Between two tokens, or two words of a query, stands a character that is none of a word, so 12 fill a text.
    private static final int TEXT_TOKENS = 12;
    // Each word, row, filter and - has a character of its own, and to join them takes fewer steps than they are.
    private static final int QUERY_STEPS = 2 * TEXT_ROOM;
    private static final int TOKEN_PLACES = 8;
    private static final int ALL_PLACES = 255;
    private static final int AUTHORS = 10;
    private static final int POSTS = 24;
    private static final int MOST_WAITING = 4;
    private static final int SEGMENTS = 6;
    private static final int SEGMENT_POSTS = 4;
    private static final int SEGMENT_TERMS = SEGMENT_POSTS * TEXT_TOKENS;
    private static final int SEGMENT_NUMBERS = SEGMENT_POSTS * TOKEN_PLACES;
    private static final int LIVE_SEGMENTS = 3;
    private static final int MOST_UNITS = 6;
    private static final int SEARCH_PLACES = 3;
    private static final int SEARCHES = 24;
    private static final int MOST_OPEN = 6;
    private static final int MOST_DIGITS = 9;

    private final Text draft;
    private final Post[] posts;
    private final Segment[] segments;
    private final Search[] searches;
    private final QueryReader reader;
    private int postsMade;
    private int postsPublished;
    private int segmentsBegun;
    private int searchesBegun;
    private final Text token;
    private int writerAt;
    private int writerTokens;

    public PostIndex() {
        draft = new Text();
        token = new Text();
        reader = new QueryReader();
        posts = new Post[POSTS];
        for (int i = 0; i < POSTS; i++) {
            posts[i] = new Post();
        }
        segments = new Segment[SEGMENTS];
        for (int g = 0; g < SEGMENTS; g++) {
            segments[g] = new Segment();
        }
        searches = new Search[SEARCH_PLACES];
        for (int i = 0; i < SEARCH_PLACES; i++) {
            searches[i] = new Search();
        }
    }

    public boolean type(char c) {
        return c >= LEAST_CODE && c <= GREATEST_CODE && draft.append(c);
    }

    public int quote(int post) {
        return stands(post) ? draft.appendBeginning(posts[post].text) : -1;
    }

    public void clear() {
        draft.makeEmpty();
    }

    public int length() {
        return draft.count;
    }

    public int post(int author, int time) {
        boolean allowed = author >= 0 && author < AUTHORS
                && postsMade < POSTS && postsMade - postsPublished < MOST_WAITING;
        if (!allowed) {
            return -1;
        }
        posts[postsMade].fill(author, time, draft);
        draft.makeEmpty();
        postsMade++;
        return postsMade - 1;
    }

    public int write(int n) {
        int units = unitsAsked(n);
        int done = 0;
        while (done < units && postsPublished < postsMade) {
            writeUnit(postsPublished);
            done++;
        }
        return done;
    }

    public int published() {
        return postsPublished;
    }

    public boolean erase(int post) {
        if (!stands(post)) {
            return false;
        }
        posts[post].erased = true;
        return true;
    }

    public int pack(int n) {
        int units = unitsAsked(n);
        for (int done = 0; done < units; done++) {
            int g = segmentToPack();
            if (g < 0) {
                return done;
            }
            segments[g].rewriteUnit();
        }
        return units;
    }

    public int search() {
        if (!reader.read(draft)) {
            return -1;
        }
        int place = freePlace();
        if (place < 0 || searchesBegun >= SEARCHES) {
            return -2;
        }
        Search begun = searches[place];
        begun.query = reader.exchange(begun.query);
        begun.bound = postsPublished;
        begun.open = true;
        searchesBegun++;
        draft.makeEmpty();
        return place;
    }

    public int next(int place) {
        if (!isOpen(place)) {
            return -1;
        }
        Search asked = searches[place];
        for (int post = asked.bound - 1; post >= 0; post--) {
            if (isHit(asked.query, post)) {
                asked.bound = post;
                return post;
            }
        }
        return -1;
    }

    public int left(int place) {
        if (!isOpen(place)) {
            return -1;
        }
        Search asked = searches[place];
        int hits = 0;
        for (int post = 0; post < asked.bound; post++) {
            if (isHit(asked.query, post)) {
                hits++;
            }
        }
        return hits;
    }

    public boolean close(int place) {
        if (!isOpen(place)) {
            return false;
        }
        searches[place].open = false;
        return true;
    }

    public int form(int g) {
        if (g < 0 || g >= segmentsBegun) {
            return -1;
        }
        if (!isLive(g)) {
            return 4;
        }
        if (!isFull(g)) {
            return 0;
        }
        if (segments[g].packed) {
            return 3;
        }
        return segments[g].rewritten > 0 ? 2 : 1;
    }

    public int size(int g) {
        return isLive(g) ? segments[g].countCells() : -1;
    }

    public int terms(int g) {
        return isLive(g) ? segments[g].termCount : -1;
    }

    public int postings(int g) {
        return isLive(g) ? segments[g].countPostings() : -1;
    }

    private static int unitsAsked(int n) {
        return n >= 1 && n <= MOST_UNITS ? n : 0;
    }

    private boolean isLive(int g) {
        return g >= 0 && g < segmentsBegun && segmentsBegun - g <= LIVE_SEGMENTS;
    }

    private boolean isFull(int g) {
        return postsPublished >= SEGMENT_POSTS * (g + 1);
    }

    private boolean stands(int post) {
        return post >= 0 && post < postsPublished && isLive(post / SEGMENT_POSTS) && !posts[post].erased;
    }

    private boolean isOpen(int place) {
        return place >= 0 && place < SEARCH_PLACES && searches[place].open;
    }

    private int freePlace() {
        for (int place = 0; place < SEARCH_PLACES; place++) {
            if (!searches[place].open) {
                return place;
            }
        }
        return -1;
    }

    private void writeUnit(int post) {
        int g = post / SEGMENT_POSTS;
        segmentsBegun = g + 1;
        Text text = posts[post].text;
        int from = text.tokenStart(writerAt);
        if (from >= text.count) {
            postsPublished++;
            writerAt = 0;
            writerTokens = 0;
            return;
        }
        writerAt = text.tokenEnd(from);
        token.setFolded(text, from, writerAt);
        segments[g].addPosting(token, post % SEGMENT_POSTS, Math.min(writerTokens, TOKEN_PLACES - 1));
        writerTokens++;
    }

    private int segmentToPack() {
        for (int g = 0; g < segmentsBegun; g++) {
            if (isLive(g) && isFull(g) && !segments[g].packed) {
                return g;
            }
        }
        return -1;
    }

    private boolean isHit(Query query, int post) {
        return stands(post)
                && query.matches(posts[post], segments[post / SEGMENT_POSTS], post % SEGMENT_POSTS);
    }

    private static final class Text {
        private final char[] chars;
        private int count;

        Text() {
            chars = new char[TEXT_ROOM];
        }

        void makeEmpty() {
            count = 0;
        }

        boolean append(char c) {
            if (count >= TEXT_ROOM) {
                return false;
            }
            chars[count] = c;
            count++;
            return true;
        }

        int appendBeginning(Text other) {
            int added = Math.min(other.count, TEXT_ROOM - count);
            System.arraycopy(other.chars, 0, chars, count, added);
            count += added;
            return added;
        }

        /** Folded once here, so that looking a word up compares plain characters. */
        void setFolded(Text other, int from, int to) {
            count = 0;
            for (int i = from; i < to; i++) {
                append(folded(other.charOr0(i)));
            }
        }

        /** 0 stands in no text, so whoever looks past the end finds nothing that fits. */
        char charOr0(int i) {
            return i >= 0 && i < count ? chars[i] : 0;
        }

        boolean isSame(Text other) {
            if (count != other.count) {
                return false;
            }
            for (int i = 0; i < count; i++) {
                if (chars[i] != other.chars[i]) {
                    return false;
                }
            }
            return true;
        }

        /** The end of the token that begins exactly at a place, or that place itself if none does. */
        int tokenEnd(int from) {
            char first = charOr0(from);
            int start = first == '#' || first == '@' ? from + 1 : from;
            int end = start;
            while (end < count && isWordCharacter(charOr0(end))) {
                end++;
            }
            return end > start ? end : from;
        }

        /** Where the first token from a place on begins, or the end of the text if there is none. */
        int tokenStart(int from) {
            for (int i = from; i < count; i++) {
                if (tokenEnd(i) > i) {
                    return i;
                }
            }
            return count;
        }

        private static boolean isWordCharacter(char c) {
            char small = folded(c);
            return small >= 'a' && small <= 'z' || isDigit(c) || c == '_';
        }

        static boolean isDigit(char c) {
            return c >= '0' && c <= '9';
        }

        private static char folded(char c) {
            return c >= 'A' && c <= 'Z' ? (char) (c - 'A' + 'a') : c;
        }
    }

    private static final class Post {
        private final Text text;
        private int author;
        private int time;
        private boolean erased;

        Post() {
            text = new Text();
        }

        void fill(int itsAuthor, int itsTime, Text itsText) {
            author = itsAuthor;
            time = itsTime;
            text.makeEmpty();
            text.appendBeginning(itsText);
        }
    }

    /** A term's postings are one int: four posts of eight places are 32 bits, and a pair counts once by itself. */
    private static final class Segment {
        private static final int FIRST_SLICE = 2;
        private static final int SECOND_SLICE = 4;
        private static final int LATER_SLICE = 8;

        private final Text[] termTexts;
        private final int[] termPostings;
        private int termCount;
        private int rewritten;
        private boolean packed;

        Segment() {
            termPostings = new int[SEGMENT_TERMS];
            termTexts = new Text[SEGMENT_TERMS];
            for (int i = 0; i < SEGMENT_TERMS; i++) {
                termTexts[i] = new Text();
            }
        }

        void addPosting(Text token, int slot, int place) {
            int term = findTerm(token);
            if (term >= SEGMENT_TERMS) {
                return;
            }
            if (term == termCount) {
                termTexts[term].setFolded(token, 0, token.count);
                termCount++;
            }
            termPostings[term] |= 1 << (TOKEN_PLACES * slot + place);
        }

        /** The places of a word in one post, a bit for each. */
        int placesOf(Text word, int slot) {
            int term = findTerm(word);
            return term < termCount ? termPostings[term] >>> (TOKEN_PLACES * slot) & ALL_PLACES : 0;
        }

        private int findTerm(Text word) {
            for (int term = 0; term < termCount; term++) {
                if (termTexts[term].isSame(word)) {
                    return term;
                }
            }
            return termCount;
        }

        void rewriteUnit() {
            if (rewritten < termCount) {
                rewritten++;
            } else {
                packed = true;
            }
        }

        int countPostings() {
            int all = 0;
            for (int term = 0; term < termCount; term++) {
                all += Integer.bitCount(termPostings[term]);
            }
            return all;
        }

        int countCells() {
            int all = 0;
            for (int term = 0; term < termCount; term++) {
                all += packed ? piecesFor(termPostings[term]) : sliceCellsFor(Integer.bitCount(termPostings[term]));
            }
            return all;
        }

        private static int sliceCellsFor(int count) {
            int cells = FIRST_SLICE;
            int slice = SECOND_SLICE;
            int room = FIRST_SLICE;
            while (room < count) {
                cells += slice;
                room += slice - 1;
                slice = LATER_SLICE;
            }
            return cells;
        }

        private static int piecesFor(int postingBits) {
            int pieces = 0;
            int before = SEGMENT_NUMBERS;
            for (int number = SEGMENT_NUMBERS - 1; number >= 0; number--) {
                if ((postingBits >>> number & 1) == 1) {
                    int difference = before - number;
                    pieces += difference < 4 ? 1 : difference < 16 ? 2 : 3;
                    before = number;
                }
            }
            return pieces;
        }
    }

    private static final class Search {
        private Query query;
        private int bound;
        private boolean open;

        Search() {
            query = new Query();
        }
    }

    /** A well-formed query as steps in the order in which they are worked out, each behind what it joins. */
    private static final class Query {
        private static final int WORDS = 0;
        private static final int AUTHOR = 1;
        private static final int BEFORE = 2;
        private static final int AFTER = 3;
        private static final int NOT = 4;
        private static final int AND = 5;
        private static final int OR = 6;

        private final int[] kinds;
        private final int[] numbers;
        private final int[] wordEnds;
        private int stepCount;
        private final Text[] words;
        private int wordCount;

        Query() {
            kinds = new int[QUERY_STEPS];
            numbers = new int[QUERY_STEPS];
            wordEnds = new int[QUERY_STEPS];
            words = new Text[TEXT_TOKENS];
            for (int i = 0; i < TEXT_TOKENS; i++) {
                words[i] = new Text();
            }
        }

        void makeEmpty() {
            stepCount = 0;
            wordCount = 0;
        }

        boolean addWord(Text source, int from, int to) {
            if (wordCount >= TEXT_TOKENS) {
                return false;
            }
            words[wordCount].setFolded(source, from, to);
            wordCount++;
            return true;
        }

        /** The words added from one number on; a single word is a row of one. */
        boolean addWordsStep(int firstWord) {
            return addStep(WORDS, firstWord);
        }

        boolean addStep(int kind, int number) {
            if (stepCount >= QUERY_STEPS) {
                return false;
            }
            kinds[stepCount] = kind;
            numbers[stepCount] = number;
            wordEnds[stepCount] = wordCount;
            stepCount++;
            return true;
        }

        /** What is worked out but not yet joined lies in the bits of an int: fewer than the text's characters. */
        boolean matches(Post post, Segment segment, int slot) {
            int results = 0;
            for (int step = 0; step < stepCount; step++) {
                switch (kinds[step]) {
                    case NOT:
                        results ^= 1;
                        break;
                    case AND:
                        results = results >>> 1 & (results | ~1);
                        break;
                    case OR:
                        results = results >>> 1 | results & 1;
                        break;
                    default:
                        results = results << 1 | (isTrue(step, post, segment, slot) ? 1 : 0);
                        break;
                }
            }
            return (results & 1) == 1;
        }

        private boolean isTrue(int step, Post post, Segment segment, int slot) {
            int number = numbers[step];
            switch (kinds[step]) {
                case AUTHOR:
                    return post.author == number;
                case BEFORE:
                    return post.time < number;
                case AFTER:
                    return post.time > number;
                default:
                    return standInRow(number, wordEnds[step], segment, slot);
            }
        }

        /** Shifted back by its number in the row, each word's places are the places where the row could begin. */
        private boolean standInRow(int firstWord, int end, Segment segment, int slot) {
            int starts = ALL_PLACES;
            for (int i = firstWord; i < end; i++) {
                starts &= segment.placesOf(words[i], slot) >>> (i - firstWord);
            }
            return starts != 0;
        }
    }

    /** Reads a text into a query of its own, because a search that is refused must leave the places alone. */
    private static final class QueryReader {
        private final Text source;
        private Query query;
        private int at;

        QueryReader() {
            source = new Text();
            query = new Query();
        }

        /** Gives away the query just read for one that is not used any more. */
        Query exchange(Query unused) {
            Query given = query;
            query = unused;
            return given;
        }

        boolean read(Text text) {
            source.makeEmpty();
            source.appendBeginning(text);
            query.makeEmpty();
            at = 0;
            return readAny(0) && peekPiece() == 0;
        }

        private boolean readAny(int open) {
            boolean good = readAll(open);
            for (int i = 0; i < TEXT_ROOM && good && take('|'); i++) {
                good = readAll(open) && query.addStep(Query.OR, 0);
            }
            return good;
        }

        private boolean readAll(int open) {
            boolean good = readPart(open);
            for (int i = 0; i < TEXT_ROOM && good && partFollows(); i++) {
                good = readPart(open) && query.addStep(Query.AND, 0);
            }
            return good;
        }

        private boolean partFollows() {
            char c = peekPiece();
            return c != 0 && c != '|' && c != ')';
        }

        private boolean readPart(int open) {
            boolean denied = false;
            for (int i = 0; i < TEXT_ROOM && take('-'); i++) {
                denied = !denied;
            }
            return readOne(open) && (!denied || query.addStep(Query.NOT, 0));
        }

        private boolean readOne(int open) {
            switch (peekPiece()) {
                case '(':
                    return open < MOST_OPEN && take('(') && readAny(open + 1) && take(')');
                case '"':
                    return readRow();
                case '=':
                    return readFilter(Query.AUTHOR);
                case '<':
                    return readFilter(Query.BEFORE);
                case '>':
                    return readFilter(Query.AFTER);
                default:
                    return readWord() && query.addWordsStep(query.wordCount - 1);
            }
        }

        private boolean readRow() {
            int firstWord = query.wordCount;
            boolean good = take('"') && readWord();
            for (int i = 0; i < TEXT_ROOM && good && peekPiece() != '"'; i++) {
                good = readWord();
            }
            return good && take('"') && query.addWordsStep(firstWord);
        }

        private boolean readWord() {
            skipSpaces();
            int from = at;
            at = source.tokenEnd(from);
            return at > from && query.addWord(source, from, at);
        }

        private boolean readFilter(int kind) {
            at++;
            int from = at;
            int number = 0;
            while (at < source.count && at - from < MOST_DIGITS && Text.isDigit(source.charOr0(at))) {
                number = 10 * number + (source.charOr0(at) - '0');
                at++;
            }
            return at > from && !Text.isDigit(source.charOr0(at)) && query.addStep(kind, number);
        }

        private boolean take(char c) {
            if (peekPiece() != c) {
                return false;
            }
            at++;
            return true;
        }

        /** The first character of the next piece, 0 at the end. */
        private char peekPiece() {
            skipSpaces();
            return source.charOr0(at);
        }

        private void skipSpaces() {
            while (at < source.count && source.charOr0(at) == ' ') {
                at++;
            }
        }
    }
}
