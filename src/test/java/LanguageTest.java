import java.nio.file.Files;
import java.nio.file.Path;
import java.util.ArrayList;
import java.util.List;
import java.util.Map;
import java.util.TreeMap;
import java.util.regex.Matcher;
import java.util.regex.Pattern;

/** What can be seen of LANGUAGE.md's rules in the program's text without comments. */
public final class LanguageTest {
    private static final List<String> RULED_OUT = List.of(
            "->", "::", "\\bthrow", "\\btry\\b", "\\bcatch\\b", "\\bfinally\\b", "\\bsynchronized\\b", "\\bassert\\b",
            "\\bpackage\\b", "\\bprotected\\b", "\\bThread\\b", "\\bRandom\\b", "\\bSystem\\.(?!arraycopy\\b)", "Exact\\s*\\(",
            "\\bhashCode\\b", "\\bstatic\\s*\\{", "\\[\\]\\[\\]\\[\\]", "\\bObject\\b", "\\bMath\\.random\\b",
            "\\bimport\\s+(?!java\\.util\\.Arrays;)");

    private static final Pattern HEAD = Pattern.compile("( {4}| {8})(?:\\w+ )*[\\w\\[\\]]+ (\\w+)\\([^=;]*\\) \\{");
    private static final Pattern CALL = Pattern.compile("(\\w+\\.)?\\b(\\w+)\\(");

    private LanguageTest() {
    }

    public static void main(String[] args) throws Exception {
        Check check = new Check();
        String text = Files.readString(Path.of("src/main/java/FilmWhole.java"));
        for (int i = 0; i < text.length(); i++) {
            if (text.charAt(i) > 126) {
                check.holds("sign " + i + " is plain", false);
            }
        }
        String bare = text.replaceAll("(?s)/\\*.*?\\*/", "").replaceAll("//[^\\n]*", "");
        for (String ruledOut : RULED_OUT) {
            Matcher m = Pattern.compile(ruledOut).matcher(bare);
            boolean found = m.find();
            check.holds("nothing like " + ruledOut, !found);
        }
        Map<String, List<String>> methods = methods(bare);
        for (String name : methods.keySet()) {
            check.holds(name + " has sixty lines at most", methods.get(name).size() <= 60);
            int depth = depth(methods, name, 1);
            check.holds(name + " calls at most eight deep, and not itself: " + depth, depth <= 8);
        }
        checkMakes(check, bare);
        check.end();
    }

    /** The lines of each method; of methods that bear one name those of all, so that what holds for all holds for each. */
    private static Map<String, List<String>> methods(String bare) {
        Map<String, List<String>> methods = new TreeMap<>();
        List<String> open = null;
        String end = "";
        for (String line : bare.split("\n")) {
            Matcher head = HEAD.matcher(line);
            if (head.matches()) {
                open = methods.computeIfAbsent(head.group(2), name -> new ArrayList<>());
                end = head.group(1) + "}";
            }
            if (open != null) {
                open.add(head.matches() ? "" : line);
            }
            if (line.equals(end)) {
                open = null;
            }
        }
        return methods;
    }

    // A method that calls itself, also by way of others, is told as deeper than any that is allowed.
    private static int depth(Map<String, List<String>> methods, String name, int sofar) {
        int deepest = sofar;
        for (String line : methods.get(name)) {
            Matcher call = CALL.matcher(line);
            while (call.find() && deepest <= 20) {
                boolean own = methods.containsKey(call.group(2));
                boolean library = call.group(1) != null && call.group(1).matches("(Math|Arrays|System)\\.");
                if (own || library) {
                    deepest = Math.max(deepest, own ? depth(methods, call.group(2), sofar + 1) : sofar + 1);
                }
            }
        }
        return deepest;
    }

    private static void checkMakes(Check check, String bare) {
        for (String line : bare.split("\n")) {
            if (line.matches(".*(\\bnew\\b|\\.clone\\(|copyOf).*")) {
                boolean field = line.matches(" +(private )?final [\\w\\[\\]]+ \\w+ = new .*");
                boolean inConstructor = line.matches(" {12}reels\\[c\\] = new Reel\\(\\);")
                        || line.matches(" {8}sources = new Sources\\(.*\\);");
                check.holds("made when the object is made:" + line, field || inConstructor);
            }
        }
    }
}
