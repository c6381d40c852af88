import java.io.IOException;
import java.nio.file.Files;
import java.nio.file.Path;
import java.util.List;
import java.util.regex.Matcher;
import java.util.regex.Pattern;

/** What of LANGUAGE.md can be seen in the text of the program; run from the project's folder. */
public final class LanguageTest {
    private static final Due due = new Due("LanguageTest");
    private static final List<String> FORBIDDEN = List.of("\\bpackage\\b", "\\bimport\\b", "\\bthrow\\b", "\\bthrows\\b",
        "\\btry\\b", "\\bcatch\\b", "\\bfinally\\b", "\\bsynchronized\\b", "\\bassert\\b", "->", "::", "\\bObject\\b",
        "\\bSystem\\.(?!arraycopy)", "\\bThread\\b", "Exact\\b", "\\bhashCode\\b", "\\btoString\\b", "\\bequals\\b",
        "\\bprotected\\b", "\\bstatic\\s*\\{", "\\bvar\\b", "\\bInteger\\b", "\\bLong\\b", "\\bjava\\.");
    private static final Pattern LIBRARY = Pattern.compile("\\b([A-Z][A-Za-z]*[a-z])\\.([a-z]\\w*)");
    private static final Pattern METHOD = Pattern.compile("^ +(?:[\\w\\[\\]]+ )*\\w+\\(([^()]*)\\) \\{$");

    public static void main(String[] args) throws IOException {
        String text = Files.readString(Path.of("src/main/java/MoveMakers.java"));
        due.holds("characters up to 255", text.chars().allMatch(c -> c < 256));
        String code = text.replaceAll("(?s)/\\*.*?\\*/", "").replaceAll("//[^\n]*", "");
        for (String word : FORBIDDEN) {
            due.holds("no " + word, !Pattern.compile(word).matcher(code).find());
        }
        Matcher library = LIBRARY.matcher(code);
        while (library.find()) {
            due.holds("library " + library.group(), List.of("Math.min", "Math.max", "Math.floorMod").contains(library.group()));
        }
        methods(code.split("\n"));
        due.end();
    }

    /** Rule 11: a method has at most seven parameters and some sixty lines. */
    private static void methods(String[] lines) {
        int seen = 0;
        for (int at = 0; at < lines.length; at++) {
            Matcher method = METHOD.matcher(lines[at]);
            if (method.find() && !lines[at].matches(" +(if|for|while|switch|\\} else).*")) {
                seen++;
                String parameters = method.group(1);
                due.holds(lines[at].trim() + " has few parameters", parameters.split(",").length <= 7);
                String end = lines[at].replaceAll("\\S.*", "") + "}";
                int last = at;
                while (last < lines.length && !lines[last].equals(end)) {
                    last++;
                }
                due.holds(lines[at].trim() + " is short", last - at <= 60);
            }
        }
        due.holds("methods were looked at: " + seen, seen > 16);
    }
}
