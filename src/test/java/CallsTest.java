import java.io.IOException;
import java.nio.file.Files;
import java.nio.file.Path;
import java.util.ArrayDeque;
import java.util.Deque;
import java.util.Map;
import java.util.Set;
import java.util.TreeMap;
import java.util.TreeSet;
import java.util.regex.Matcher;
import java.util.regex.Pattern;

// Rule 11 of LANGUAGE.md: methods stay short, and calls that are no recursion go at most eight deep.
// Calls are told apart by name alone; methods of one name count as one that calls what any of them calls.
public final class CallsTest {
    private static final int MOST_LINES = 60;
    private static final int MOST_DEEP = 8;
    // A keyword has a space before its bracket, so it is not taken for a method.
    private static final Pattern METHOD =
            Pattern.compile("(?m)^ +(?:(?:public|private|static|final) )*(?:[\\w\\[\\]]+ )?(\\w+)\\([^()]*\\) \\{$");
    private static final Pattern CALL = Pattern.compile("(\\w+)\\(");

    private static int wrong;

    public static void main(String[] args) throws IOException {
        testOfTheTest();
        String code = withoutComments(Files.readString(Path.of("src/main/java/PostIndex.java")));
        Map<String, Set<String>> calls = calls(code);
        check("the methods are found", calls.keySet().containsAll(Set.of("type", "next", "PostIndex", "Segment")));
        for (String method : calls.keySet()) {
            int deep = depth(method, calls);
            check("calls from " + method + " go " + deep + " deep", deep <= MOST_DEEP);
        }
        System.out.println(wrong == 0 ? calls.size() + " methods are as due" : wrong + " faults");
        if (wrong != 0) {
            System.exit(1);
        }
    }

    private static void testOfTheTest() {
        Map<String, Set<String>> calls = calls("""
                    int a(int x) {
                        if (x > 0) {
                            return b(c());
                        }
                        return 0;
                    }
                    private static int b(int x) {
                        return c() + d(x);
                    }
                    int c() {
                        return b(1);
                    }
                    int d(int x) {
                        return Math.abs(x);
                    }
                """);
        check("a calls b and c", calls.get("a").equals(Set.of("b", "c")));
        check("d calls none of these", calls.get("d").isEmpty());
        check("b and c call one another and count once", depth("a", calls) == 3 && depth("c", calls) == 2);
    }

    private static String withoutComments(String text) {
        return text.replaceAll("(?s)/\\*.*?\\*/", "").replaceAll("//[^\n]*", "");
    }

    private static Map<String, Set<String>> calls(String code) {
        Map<String, String> bodies = new TreeMap<>();
        Matcher method = METHOD.matcher(code);
        while (method.find()) {
            String body = bodyFrom(code, method.end());
            long lines = body.lines().count();
            check(method.group(1) + " has " + lines + " lines", lines <= MOST_LINES);
            bodies.merge(method.group(1), body, String::concat);
        }
        Map<String, Set<String>> calls = new TreeMap<>();
        bodies.forEach((name, body) -> calls.put(name, namesIn(body, bodies.keySet())));
        return calls;
    }

    private static String bodyFrom(String code, int from) {
        int open = 1;
        int at = from;
        while (at < code.length() && open > 0) {
            open += code.charAt(at) == '{' ? 1 : code.charAt(at) == '}' ? -1 : 0;
            at++;
        }
        return code.substring(from, at);
    }

    private static Set<String> namesIn(String body, Set<String> methods) {
        Set<String> names = new TreeSet<>();
        Matcher call = CALL.matcher(body);
        while (call.find()) {
            if (methods.contains(call.group(1))) {
                names.add(call.group(1));
            }
        }
        return names;
    }

    /** How many methods stand open at most, the method itself too; those that call one another are one. */
    private static int depth(String method, Map<String, Set<String>> calls) {
        int below = 0;
        for (String one : circle(method, calls)) {
            for (String called : calls.get(one)) {
                if (!reached(called, calls).contains(method)) {
                    below = Math.max(below, depth(called, calls));
                }
            }
        }
        return below + 1;
    }

    private static Set<String> circle(String method, Map<String, Set<String>> calls) {
        Set<String> circle = new TreeSet<>(Set.of(method));
        for (String one : reached(method, calls)) {
            if (reached(one, calls).contains(method)) {
                circle.add(one);
            }
        }
        return circle;
    }

    private static Set<String> reached(String method, Map<String, Set<String>> calls) {
        Set<String> reached = new TreeSet<>();
        Deque<String> ahead = new ArrayDeque<>(calls.get(method));
        while (!ahead.isEmpty()) {
            String one = ahead.pop();
            if (reached.add(one)) {
                ahead.addAll(calls.get(one));
            }
        }
        return reached;
    }

    private static void check(String what, boolean holds) {
        if (!holds) {
            wrong++;
            System.out.println("not so: " + what);
        }
    }
}
