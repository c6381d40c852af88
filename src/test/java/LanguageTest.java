import java.io.IOException;
import java.nio.file.Files;
import java.nio.file.Path;
import java.util.ArrayDeque;
import java.util.Deque;
import java.util.List;
import java.util.Map;
import java.util.Set;
import java.util.TreeMap;
import java.util.TreeSet;
import java.util.regex.Matcher;
import java.util.regex.Pattern;

/** What of LANGUAGE.md can be seen in the text of the program; run from the project's folder. */
public final class LanguageTest {
    private static final Due due = new Due("LanguageTest");
    private static final List<String> FORBIDDEN = List.of("\\bpackage\\b", "\\bimport\\b", "\\bthrow\\b", "\\bthrows\\b",
        "\\btry\\b", "\\bcatch\\b", "\\bfinally\\b", "\\bsynchronized\\b", "\\bassert\\b", "->", "::", "\\bObject\\b",
        "\\bSystem\\.(?!arraycopy)", "\\bThread\\b", "Exact\\b", "\\bhashCode\\b", "\\btoString\\b", "\\bequals\\b",
        "\\bprotected\\b", "\\bstatic\\s*\\{", "\\bvar\\b", "\\bInteger\\b", "\\bLong\\b", "\\bjava\\.");
    private static final Pattern LIBRARY = Pattern.compile("\\b([A-Z][A-Za-z]*[a-z])\\.([a-z]\\w*)");
    private static final Pattern METHOD = Pattern.compile("^ +(?:[\\w\\[\\]]+ )*(\\w+)\\(([^()]*)\\) \\{$");
    private static final Pattern CALL = Pattern.compile("\\b([a-z]\\w*)\\(");
    private static final int DEEPEST_CALLS = 8;
    private static final Map<String, Set<String>> calls = new TreeMap<>();

    public static void main(String[] args) throws IOException {
        String text = Files.readString(Path.of("src/main/java/MoveMakers.java"));
        due.holds("characters up to 255", text.chars().allMatch(c -> c < 256));
        String code = text.replaceAll("(?s)/\\*.*?\\*/", "").replaceAll("//[^\n]*", "");
        for (String word : FORBIDDEN) {
            due.holds("no " + word, !Pattern.compile(word).matcher(code).find());
        }
        Matcher library = LIBRARY.matcher(code);
        while (library.find()) {
            due.holds("library " + library.group(), List.of("Math.min", "Math.max", "Math.floorMod").contains(library.group()));
        }
        methods(code.split("\n"));
        callDepth();
        due.end();
    }

    /** Rule 11: a method has at most seven parameters and some sixty lines. */
    private static void methods(String[] lines) {
        int seen = 0;
        for (int at = 0; at < lines.length; at++) {
            Matcher method = METHOD.matcher(lines[at]);
            if (method.find() && !lines[at].matches(" +(if|for|while|switch|\\} else).*")) {
                seen++;
                String parameters = method.group(2);
                due.holds(lines[at].trim() + " has few parameters", parameters.split(",").length <= 7);
                String end = lines[at].replaceAll("\\S.*", "") + "}";
                int last = at;
                while (last < lines.length && !lines[last].equals(end)) {
                    last++;
                }
                due.holds(lines[at].trim() + " is short", last - at <= 60);
                noteCalls(method.group(1), lines, at + 1, last);
            }
        }
        due.holds("methods were looked at: " + seen, seen > 16);
    }

    /** Methods of one name are taken for one: that can only make the calls look deeper than they are. */
    private static void noteCalls(String name, String[] lines, int from, int to) {
        Set<String> called = calls.computeIfAbsent(name, n -> new TreeSet<>());
        for (int at = from; at < to; at++) {
            Matcher call = CALL.matcher(lines[at]);
            while (call.find()) {
                called.add(call.group(1));
            }
        }
    }

    /** Rule 11: calls that are no recursion go at most eight deep. */
    private static void callDepth() {
        for (String name : calls.keySet()) {
            Deque<String> deepest = deepest(name, new ArrayDeque<>());
            due.holds("not too deep: " + deepest, deepest.size() <= DEEPEST_CALLS);
        }
    }

    private static Deque<String> deepest(String name, Deque<String> open) {
        open.addLast(name);
        Deque<String> best = new ArrayDeque<>(open);
        for (String next : calls.get(name)) {
            if (calls.containsKey(next) && !open.contains(next)) {
                Deque<String> way = deepest(next, open);
                best = way.size() > best.size() ? way : best;
            }
        }
        open.removeLast();
        return best;
    }
}
