import java.lang.reflect.Method;
import java.lang.reflect.Modifier;
import java.nio.file.Files;
import java.nio.file.Path;
import java.util.ArrayList;
import java.util.List;
import java.util.regex.Matcher;
import java.util.regex.Pattern;
import java.util.stream.Stream;

/** README.md tells the truth: its example answers what it says, and every call and every test is told. */
public final class ReadmeTest {
    private static final Pattern CALL = Pattern.compile("^film\\.(\\w+)\\((.*)\\); +// (-?\\w+)(:.*)?$");

    private ReadmeTest() {
    }

    public static void main(String[] args) throws Exception {
        Check check = new Check();
        String readme = Files.readString(Path.of("README.md"));
        checkExample(check, readme);
        for (Method m : FilmWhole.class.getDeclaredMethods()) {
            if (Modifier.isPublic(m.getModifiers())) {
                check.due(m.getName() + ": arguments told", m.getParameterCount(), parametersTold(readme, m));
            }
        }
        checkTests(check, readme);
        check.end();
    }

    private static void checkExample(Check check, String readme) throws Exception {
        FilmWhole film = new FilmWhole();
        int shown = 0;
        for (String line : example(readme)) {
            Matcher m = CALL.matcher(line);
            if (!m.matches()) {
                check.holds("a call and its answer: " + line, line.equals("FilmWhole film = new FilmWhole();"));
                continue;
            }
            shown++;
            check.due(line, number(m.group(3)), call(film, m.group(1), m.group(2)));
        }
        check.holds("calls are shown", shown > 0);
    }

    private static List<String> example(String readme) {
        String begin = "```java\n";
        int start = readme.indexOf(begin) + begin.length();
        return List.of(readme.substring(start, readme.indexOf("```", start)).split("\n"));
    }

    private static long number(String told) throws Exception {
        boolean isName = Character.isLetter(told.charAt(0));
        return isName ? FilmWhole.class.getField(told).getInt(null) : Long.decode(told.replaceAll("[_L]", ""));
    }

    private static int call(FilmWhole film, String name, String told) throws Exception {
        for (Method m : FilmWhole.class.getMethods()) {
            if (m.getName().equals(name)) {
                List<Object> values = new ArrayList<>();
                for (String one : told.isEmpty() ? new String[0] : told.split(", ")) {
                    boolean isInt = m.getParameterTypes()[values.size()] == int.class;
                    values.add(isInt ? (Object) (int) number(one) : (Object) number(one));
                }
                return (int) m.invoke(film, values.toArray());
            }
        }
        throw new NoSuchMethodException(name);
    }

    private static int parametersTold(String readme, Method m) {
        Matcher told = Pattern.compile("\\| `" + m.getName() + "\\(([^)]*)\\)` \\|").matcher(readme);
        if (!told.find()) {
            return -1;
        }
        return told.group(1).isEmpty() ? 0 : told.group(1).split(",").length;
    }

    private static void checkTests(Check check, String readme) throws Exception {
        try (Stream<Path> files = Files.list(Path.of("src/test/java"))) {
            for (Path file : files.toList()) {
                String name = file.getFileName().toString().replace(".java", "");
                check.holds(name + " is told", readme.contains("`" + name + "`"));
            }
        }
    }
}
