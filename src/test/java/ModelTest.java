import java.util.ArrayList;
import java.util.HashSet;
import java.util.LinkedHashMap;
import java.util.List;
import java.util.Locale;
import java.util.Map;
import java.util.Random;
import java.util.Set;
import java.util.TreeSet;
import java.util.function.Predicate;
import java.util.regex.Matcher;
import java.util.regex.Pattern;

// Long runs of calls, the same ones each time, against a second program that is written from the document in other ways:
// it matches posts by their texts, not by an index, and counts slices and pieces by laying them out.
public final class ModelTest {
    private static final int RUNS = 4000;
    // A round makes up to six calls, and an object has 512.
    private static final int CALLS = 506;
    private static final int CROWDED_RUNS = 3000;
    private static final String SHORT_CHARACTERS = "a1-|()\"= #";
    private static final int SHORT_LENGTH = 5;

    public static void main(String[] args) {
        Map<String, Integer> seen = new LinkedHashMap<>();
        for (int run = 0; run < RUNS; run++) {
            Run one = new Run(run, seen);
            one.play();
            if (one.failed) {
                System.exit(1);
            }
        }
        for (String rare : List.of("post 23", "search -2", "search -1", "form 2", "form 3", "form 4", "pack 6", "next 20",
                "left 8", "quote 24", "erase true")) {
            if (seen.getOrDefault(rare, 0) < 20) {
                System.out.println("the runs hardly ever see: " + rare);
                System.exit(1);
            }
        }
        System.out.println(RUNS + " runs are as due");
        crowdedQueries();
        shortQueries();
    }

    private static void crowdedQueries() {
        for (int run = 0; run < CROWDED_RUNS; run++) {
            Run one = new Run(run, new LinkedHashMap<>());
            one.playCrowded();
            if (one.failed) {
                System.exit(1);
            }
        }
        System.out.println(CROWDED_RUNS + " runs with crowded queries are as due");
    }

    /** Every text of a few characters: what is of the form and what is not. */
    private static void shortQueries() {
        List<String> queries = new ArrayList<>(List.of(""));
        for (int from = 0; queries.get(from).length() < SHORT_LENGTH; from++) {
            for (char c : SHORT_CHARACTERS.toCharArray()) {
                queries.add(queries.get(from) + c);
            }
        }
        int perRun = 24;
        for (int from = 0; from < queries.size(); from += perRun) {
            Run one = new Run(from, new LinkedHashMap<>());
            one.playQueries(queries.subList(from, Math.min(from + perRun, queries.size())));
            if (one.failed) {
                System.exit(1);
            }
        }
        System.out.println(queries.size() + " short queries are as due");
    }

    /** One object, its model, and calls chosen by a seed. */
    private static final class Run {
        private final int number;
        private final Random random;
        private final Map<String, Integer> seen;
        private final PostIndex real = new PostIndex();
        private final Model model = new Model();
        private final StringBuilder log = new StringBuilder();
        private final int textLength;
        private final String letters;
        private int calls;
        private boolean failed;

        Run(int number, Map<String, Integer> seen) {
            this.number = number;
            this.seen = seen;
            random = new Random(number);
            textLength = new int[] {1, 2, 4, 9, 24}[number % 5];
            letters = new String[] {"ab", "aB #", "abc#@_ ,", "a b "}[number / 5 % 4];
        }

        void play() {
            while (calls < CALLS && !failed) {
                switch (random.nextInt(16)) {
                    case 0: case 1: case 2:
                        typeAll(text());
                        same("post", real.post(author(), time()), model.post(lastAuthor, lastTime));
                        break;
                    case 3:
                        typeAll(query());
                        begin();
                        break;
                    case 4:
                        if (random.nextInt(3) == 0) {
                            clear();
                        } else {
                            begin();
                        }
                        break;
                    case 5: {
                        int post = post();
                        same("quote", real.quote(post), model.quote(post));
                        break;
                    }
                    case 6:
                        if (random.nextInt(4) == 0) {
                            int post = post();
                            same("erase", real.erase(post), model.erase(post));
                        }
                        break;
                    case 7: case 8: case 9: case 10: {
                        int n = units();
                        same("write", real.write(n), model.write(n));
                        break;
                    }
                    case 11: {
                        int n = units();
                        same("pack", real.pack(n), model.pack(n));
                        break;
                    }
                    case 12: {
                        int place = random.nextInt(5) - 1;
                        same("next", real.next(place), model.next(place));
                        break;
                    }
                    case 13: {
                        int place = random.nextInt(5) - 1;
                        same("left", real.left(place), model.left(place));
                        break;
                    }
                    case 14:
                        lookAtSegment();
                        break;
                    default:
                        if (random.nextInt(3) == 0) {
                            int place = random.nextInt(5) - 1;
                            same("close", real.close(place), model.close(place));
                        }
                        break;
                }
            }
        }

        /** Queries that are of the form and use the draft's 24 characters up. */
        void playCrowded() {
            List<String> queries = new ArrayList<>();
            for (int i = 0; i < 12; i++) {
                queries.add(crowdedQuery());
            }
            playQueries(queries);
            if (model.begun != queries.size()) {
                failed = true;
                System.out.println("crowded run " + number + " has malformed queries: " + queries);
            }
        }

        void playQueries(List<String> queries) {
            for (String text : List.of("a", "1 a", "#a b", "b")) {
                typeAll(text);
                same("post", real.post(author(), time()), model.post(lastAuthor, lastTime));
                same("write", real.write(6), model.write(6));
                clear();
            }
            for (String query : queries) {
                typeAll(query);
                begin();
                same("left", real.left(0), model.left(0));
                same("next", real.next(0), model.next(0));
                same("left", real.left(0), model.left(0));
                same("close", real.close(0), model.close(0));
                clear();
            }
        }

        private void clear() {
            real.clear();
            model.draft.setLength(0);
            calls++;
        }

        private String crowdedQuery() {
            List<String> pieces = List.of("-", "(", "a", "b", "_", "#a", "=1", "<2", ">0", "\"a b\"", "-", "a", "|", ")");
            StringBuilder query = new StringBuilder();
            int open = 0;
            boolean partDue = true;
            while (partDue || query.length() + open < 24) {
                String piece = pieces.get(random.nextInt(pieces.size() - (partDue ? 2 : 0)));
                boolean begins = piece.equals("-") || piece.equals("(") || piece.equals("|");
                boolean closes = piece.equals(")");
                int room = 24 - query.length() - open;
                int needed = closes ? 0 : piece.length() + (begins ? 1 : 0) + (piece.equals("(") ? 1 : 0);
                if (needed > room || closes && open == 0 || piece.equals("(") && open == 6) {
                    continue;
                }
                query.append(piece);
                open += piece.equals("(") ? 1 : closes ? -1 : 0;
                partDue = begins;
            }
            return query.append(")".repeat(open)).toString();
        }

        private void begin() {
            log.append("query '").append(model.draft).append("'\n");
            same("search", real.search(), model.search());
        }

        private void lookAtSegment() {
            int g = random.nextInt(8) - 1;
            same("form", real.form(g), model.form(g));
            same("size", real.size(g), model.size(g));
            same("terms", real.terms(g), model.terms(g));
            same("postings", real.postings(g), model.postings(g));
            same("published", real.published(), model.published);
            same("length", real.length(), model.draft.length());
        }

        private int lastAuthor;
        private int lastTime;

        private int author() {
            lastAuthor = random.nextInt(12) == 0 ? random.nextInt(14) - 2 : random.nextInt(3);
            return lastAuthor;
        }

        private int time() {
            lastTime = random.nextInt(8) == 0 ? random.nextInt() : random.nextInt(5) - 1;
            return lastTime;
        }

        private int post() {
            return random.nextInt(6) == 0 ? random.nextInt(28) - 2 : Math.max(0, model.published - random.nextInt(8));
        }

        private int units() {
            return random.nextInt(12) == 0 ? random.nextInt(11) - 2 : 1 + random.nextInt(6);
        }

        private String text() {
            StringBuilder text = new StringBuilder();
            int length = random.nextInt(textLength + 1);
            for (int i = 0; i < length; i++) {
                text.append(random.nextInt(40) == 0 ? (char) random.nextInt(130)
                        : letters.charAt(random.nextInt(letters.length())));
            }
            return text.toString();
        }

        private String query() {
            StringBuilder query = new StringBuilder();
            any(query, 0);
            if (random.nextInt(6) == 0) {
                query.insert(random.nextInt(query.length() + 1), "|-\"()=<>#@ ,a5".charAt(random.nextInt(14)));
            }
            if (random.nextInt(12) == 0) {
                query.deleteCharAt(random.nextInt(query.length()));
            }
            return query.toString();
        }

        private void any(StringBuilder query, int depth) {
            all(query, depth);
            while (random.nextInt(5) == 0) {
                query.append('|');
                all(query, depth);
            }
        }

        private void all(StringBuilder query, int depth) {
            part(query, depth);
            while (random.nextInt(4) == 0) {
                query.append(' ');
                part(query, depth);
            }
        }

        private void part(StringBuilder query, int depth) {
            while (random.nextInt(4) == 0) {
                query.append('-');
            }
            int kind = random.nextInt(depth < 9 ? 8 : 6);
            if (kind < 3) {
                word(query);
            } else if (kind < 5) {
                query.append('"');
                word(query);
                while (random.nextInt(3) > 0) {
                    query.append(' ');
                    word(query);
                }
                query.append('"');
            } else if (kind == 5) {
                query.append("=<>".charAt(random.nextInt(3))).append(random.nextInt(4));
                while (random.nextInt(6) == 0) {
                    query.append(random.nextInt(10));
                }
            } else {
                query.append('(');
                any(query, random.nextInt(3) == 0 ? depth : depth + 1);
                query.append(')');
            }
        }

        private void word(StringBuilder query) {
            query.append(random.nextInt(8) == 0 ? "#" : "");
            do {
                query.append("aabBc_".charAt(random.nextInt(6)));
            } while (random.nextInt(4) == 0);
        }

        private void typeAll(String text) {
            for (int i = 0; i < text.length() && calls < CALLS; i++) {
                char c = text.charAt(i);
                same("type", real.type(c), model.type(c));
            }
        }

        private void same(String call, Object got, Object due) {
            calls++;
            log.append(call).append(' ').append(got).append('\n');
            seen.merge(call + " " + got, 1, Integer::sum);
            if (!got.equals(due) && !failed) {
                failed = true;
                System.out.println("run " + number + ", call " + calls + ": " + call + " answered " + got
                        + ", due is " + due + ", after\n" + log);
            }
        }
    }

    /** What the document says, in its own words where that is possible. */
    private static final class Model {
        private final StringBuilder draft = new StringBuilder();
        private final List<Item> items = new ArrayList<>();
        private final Map<Integer, Part> parts = new LinkedHashMap<>();
        private final Hunt[] hunts = new Hunt[3];
        private int published;
        private int indexed;
        private int begun;

        boolean type(char c) {
            if (c < 32 || c > 126 || draft.length() == 24) {
                return false;
            }
            draft.append(c);
            return true;
        }

        boolean open(int post) {
            return post >= 0 && post < published && live(post / 4) && !items.get(post).erased;
        }

        boolean live(int g) {
            return parts.containsKey(g) && !parts.containsKey(g + 3);
        }

        int quote(int post) {
            if (!open(post)) {
                return -1;
            }
            int before = draft.length();
            draft.append(items.get(post).text);
            draft.setLength(Math.min(24, draft.length()));
            return draft.length() - before;
        }

        int post(int author, int time) {
            if (author < 0 || author > 9 || items.size() - published == 4 || items.size() == 24) {
                return -1;
            }
            items.add(new Item(author, time, draft.toString()));
            draft.setLength(0);
            return items.size() - 1;
        }

        int write(int n) {
            int done = 0;
            for (int i = 0; i < n && n <= 6 && published < items.size(); i++) {
                Part part = parts.computeIfAbsent(published / 4, g -> new Part());
                List<String> tokens = items.get(published).tokens;
                if (indexed < tokens.size()) {
                    part.postings.computeIfAbsent(tokens.get(indexed), t -> new TreeSet<>())
                            .add(8 * (published % 4) + Math.min(7, indexed));
                    indexed++;
                } else {
                    published++;
                    indexed = 0;
                }
                done++;
            }
            return done;
        }

        boolean erase(int post) {
            boolean can = open(post);
            if (can) {
                items.get(post).erased = true;
            }
            return can;
        }

        int pack(int n) {
            int done = 0;
            for (int i = 0; i < n && n <= 6; i++) {
                for (int g : parts.keySet()) {
                    int form = form(g);
                    if (form == 1 || form == 2) {
                        Part part = parts.get(g);
                        part.packed = part.rewritten == part.postings.size();
                        part.rewritten += part.packed ? 0 : 1;
                        done++;
                        break;
                    }
                }
            }
            return done;
        }

        int form(int g) {
            if (!parts.containsKey(g)) {
                return -1;
            }
            Part part = parts.get(g);
            return !live(g) ? 4 : part.packed ? 3 : published < 4 * g + 4 ? 0 : part.rewritten > 0 ? 2 : 1;
        }

        int size(int g) {
            if (!live(g)) {
                return -1;
            }
            int size = 0;
            for (TreeSet<Integer> numbers : parts.get(g).postings.values()) {
                size += parts.get(g).packed ? pieces(numbers) : cells(numbers.size());
            }
            return size;
        }

        private static int cells(int count) {
            List<Integer> slices = new ArrayList<>(List.of(2));
            int room = 2;
            while (room < count) {
                slices.add(slices.size() == 1 ? 4 : 8);
                room += slices.get(slices.size() - 1) - 1;
            }
            return slices.stream().mapToInt(slice -> slice).sum();
        }

        private static int pieces(TreeSet<Integer> numbers) {
            int pieces = 0;
            int before = 32;
            for (int number : numbers.descendingSet()) {
                pieces += before - number >= 16 ? 3 : before - number >= 4 ? 2 : 1;
                before = number;
            }
            return pieces;
        }

        int terms(int g) {
            return live(g) ? parts.get(g).postings.size() : -1;
        }

        int postings(int g) {
            return live(g) ? parts.get(g).postings.values().stream().mapToInt(Set::size).sum() : -1;
        }

        int search() {
            Predicate<Item> query = new Reader(draft.toString()).read();
            if (query == null) {
                return -1;
            }
            for (int place = 0; place < 3 && begun < 24; place++) {
                if (hunts[place] == null) {
                    hunts[place] = new Hunt(query, published);
                    begun++;
                    draft.setLength(0);
                    return place;
                }
            }
            return -2;
        }

        private Hunt hunt(int place) {
            return place < 0 || place > 2 ? null : hunts[place];
        }

        private List<Integer> hits(Hunt hunt) {
            List<Integer> hits = new ArrayList<>();
            for (int post = 23; post >= 0; post--) {
                if (post < hunt.bound && open(post) && hunt.query.test(items.get(post))) {
                    hits.add(post);
                }
            }
            return hits;
        }

        int next(int place) {
            Hunt hunt = hunt(place);
            if (hunt == null || hits(hunt).isEmpty()) {
                return -1;
            }
            hunt.bound = hits(hunt).get(0);
            return hunt.bound;
        }

        int left(int place) {
            Hunt hunt = hunt(place);
            return hunt == null ? -1 : hits(hunt).size();
        }

        boolean close(int place) {
            boolean can = hunt(place) != null;
            if (can) {
                hunts[place] = null;
            }
            return can;
        }
    }

    private static final class Item {
        private static final Pattern TOKEN = Pattern.compile("[#@]?[A-Za-z0-9_]+");
        private final int author;
        private final int time;
        private final String text;
        private final List<String> tokens = new ArrayList<>();
        private boolean erased;

        Item(int author, int time, String text) {
            this.author = author;
            this.time = time;
            this.text = text;
            Matcher found = TOKEN.matcher(text);
            while (found.find()) {
                tokens.add(found.group().toLowerCase(Locale.ROOT));
            }
        }

        boolean holdsAt(String word, int place) {
            for (int i = 0; i < tokens.size(); i++) {
                if (tokens.get(i).equals(word) && Math.min(i, 7) == place) {
                    return true;
                }
            }
            return false;
        }

        boolean holdsRow(List<String> row) {
            for (int start = 0; start < 8; start++) {
                int fits = 0;
                while (fits < row.size() && holdsAt(row.get(fits), start + fits)) {
                    fits++;
                }
                if (fits == row.size()) {
                    return true;
                }
            }
            return false;
        }
    }

    private static final class Part {
        private final Map<String, TreeSet<Integer>> postings = new LinkedHashMap<>();
        private int rewritten;
        private boolean packed;
    }

    private static final class Hunt {
        private final Predicate<Item> query;
        private int bound;

        Hunt(Predicate<Item> query, int bound) {
            this.query = query;
            this.bound = bound;
        }
    }

    /** Cuts the query into pieces first, then finds each form by where its pieces end; null is malformed. */
    private static final class Reader {
        private static final Pattern PIECE = Pattern.compile("\\G *([#@]?[A-Za-z0-9_]+|[=<>][0-9]{1,9}(?![0-9])|[|\\-\"()])");
        private final List<String> pieces = new ArrayList<>();
        private boolean good = true;

        Reader(String text) {
            String trimmed = text.replaceAll(" +$", "");
            Matcher found = PIECE.matcher(trimmed);
            int end = 0;
            int open = 0;
            while (found.find()) {
                pieces.add(found.group(1).toLowerCase(Locale.ROOT));
                end = found.end();
                open += found.group(1).equals("(") ? 1 : found.group(1).equals(")") ? -1 : 0;
                good &= open <= 6;
            }
            good &= end == trimmed.length();
        }

        Predicate<Item> read() {
            return good ? any(pieces) : null;
        }

        private static Predicate<Item> any(List<String> pieces) {
            Predicate<Item> any = item -> false;
            int from = 0;
            for (int i = 0; i <= pieces.size(); i++) {
                boolean ends = i == pieces.size() || pieces.get(i).equals("|") && depthAt(pieces, i) == 0;
                if (ends) {
                    Predicate<Item> all = all(pieces.subList(from, i));
                    if (all == null) {
                        return null;
                    }
                    any = any.or(all);
                    from = i + 1;
                }
            }
            return any;
        }

        private static int depthAt(List<String> pieces, int end) {
            int depth = 0;
            for (String piece : pieces.subList(0, end)) {
                depth += piece.equals("(") ? 1 : piece.equals(")") ? -1 : 0;
            }
            return depth;
        }

        private static Predicate<Item> all(List<String> pieces) {
            if (pieces.isEmpty()) {
                return null;
            }
            Predicate<Item> all = item -> true;
            int at = 0;
            while (at < pieces.size()) {
                int from = at;
                while (at < pieces.size() && pieces.get(at).equals("-")) {
                    at++;
                }
                int end = oneEnd(pieces, at);
                Predicate<Item> one = end < 0 ? null : one(pieces.subList(at, end));
                if (one == null) {
                    return null;
                }
                all = all.and((at - from) % 2 == 0 ? one : one.negate());
                at = end;
            }
            return all;
        }

        private static int oneEnd(List<String> pieces, int from) {
            if (from >= pieces.size()) {
                return -1;
            }
            String first = pieces.get(from);
            for (int i = from + 1; i <= pieces.size(); i++) {
                String last = pieces.get(i - 1);
                boolean ends = switch (first) {
                    case "(" -> last.equals(")") && depthAt(pieces.subList(from, i), i - from) == 0;
                    case "\"" -> last.equals("\"") && i > from + 1;
                    default -> true;
                };
                if (ends) {
                    return i;
                }
            }
            return -1;
        }

        private static Predicate<Item> one(List<String> pieces) {
            String first = pieces.get(0);
            List<String> within = pieces.subList(Math.min(1, pieces.size() - 1), Math.max(1, pieces.size() - 1));
            switch (first.charAt(0)) {
                case '(':
                    return any(within);
                case '"':
                    Set<String> kinds = new HashSet<>();
                    within.forEach(word -> kinds.add(isWord(word) ? "word" : "other"));
                    List<String> row = new ArrayList<>(within);
                    return kinds.equals(Set.of("word")) ? item -> item.holdsRow(row) : null;
                case '=':
                    return item -> item.author == number(first);
                case '<':
                    return item -> item.time < number(first);
                case '>':
                    return item -> item.time > number(first);
                default:
                    return isWord(first) ? item -> item.tokens.contains(first) : null;
            }
        }

        private static boolean isWord(String piece) {
            return Item.TOKEN.matcher(piece).matches();
        }

        private static int number(String filter) {
            return Integer.parseInt(filter.substring(1));
        }
    }
}
