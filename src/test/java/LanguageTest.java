import java.nio.file.Files;
import java.nio.file.Path;
import java.util.List;
import java.util.regex.Matcher;
import java.util.regex.Pattern;

/** What can be seen of LANGUAGE.md's rules in the program's text without comments. */
public final class LanguageTest {
    private static final List<String> RULED_OUT = List.of(
            "->", "::", "\\bcatch\\b", "\\bfinally\\b", "\\bsynchronized\\b", "\\bassert\\b", "\\bpackage\\b",
            "\\bprotected\\b", "\\bThread\\b", "\\bRandom\\b", "\\bSystem\\.(?!arraycopy\\b)", "Exact\\s*\\(",
            "\\bhashCode\\b", "\\bstatic\\s*\\{", "\\[\\]\\[\\]\\[\\]", "\\bObject\\b", "\\bMath\\.random\\b",
            "\\bimport\\s+(?!java\\.util\\.Arrays;)");

    public static void main(String[] args) throws Exception {
        Check check = new Check();
        String text = Files.readString(Path.of("src/main/java/FilmWhole.java"));
        for (int i = 0; i < text.length(); i++) {
            if (text.charAt(i) > 126) {
                check.holds("sign " + i + " is plain", false);
            }
        }
        String bare = text.replaceAll("(?s)/\\*.*?\\*/", "").replaceAll("//[^\\n]*", "");
        for (String ruledOut : RULED_OUT) {
            Matcher m = Pattern.compile(ruledOut).matcher(bare);
            boolean found = m.find();
            check.holds("nothing like " + ruledOut, !found);
        }
        check.holds("no method of more than sixty lines", longestMethod(bare) <= 60);
        check.end();
    }

    private static int longestMethod(String bare) {
        int longest = 0;
        int start = -1;
        String[] lines = bare.split("\n");
        for (int i = 0; i < lines.length; i++) {
            if (lines[i].matches("( {4}| {8})[\\w\\[\\]][^=;]*\\) \\{")) {
                start = i;
            }
            if (start >= 0 && lines[i].matches("( {4}| {8})\\}")) {
                longest = Math.max(longest, i - start + 1);
                start = -1;
            }
        }
        return longest;
    }
}
