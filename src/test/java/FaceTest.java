import java.lang.reflect.Constructor;
import java.lang.reflect.Field;
import java.lang.reflect.Method;
import java.lang.reflect.Modifier;
import java.util.Arrays;
import java.util.HashSet;
import java.util.List;
import java.util.Set;
import java.util.TreeSet;

/** The class has the document's face and no other member that can be seen (LANGUAGE.md, rule 1). */
public final class FaceTest {
    private static final List<String> FACE = List.of(
            "copy[]", "frame[int, int, int, int]", "frames[int, int, long]", "at[int, int, int]",
            "wear[int, int, int]", "place[int, int]", "noScript[]", "rule[int, int]", "line[int, int, int]",
            "stands[int, int]", "whole[int]", "about[int]", "mend[int]", "note[int, int, int, int]", "tint[int]",
            "cue[int, int, int]", "noCues[]", "order[int, int]", "undo[]", "count[int]");

    public static void main(String[] args) {
        Check check = new Check();
        check.holds("public and final", Modifier.isPublic(FilmWhole.class.getModifiers())
                && Modifier.isFinal(FilmWhole.class.getModifiers()));
        checkMethods(check);
        checkFields(check);
        Constructor<?>[] made = FilmWhole.class.getDeclaredConstructors();
        check.holds("one public constructor without arguments", made.length == 1
                && made[0].getParameterCount() == 0 && Modifier.isPublic(made[0].getModifiers()));
        for (Class<?> inside : FilmWhole.class.getDeclaredClasses()) {
            checkInside(check, inside);
        }
        check.holds("at most twelve classes", FilmWhole.class.getDeclaredClasses().length <= 11);
        check.due("BAD", -1, FilmWhole.BAD);
        check.due("NO", -2, FilmWhole.NO);
        check.due("FULL", -3, FilmWhole.FULL);
        check.due("NONE", -4, FilmWhole.NONE);
        check.end();
    }

    private static Set<String> faceNames() {
        Set<String> names = new HashSet<>();
        for (String told : FACE) {
            names.add(told.substring(0, told.indexOf('[')));
        }
        return names;
    }

    private static void checkMethods(Check check) {
        Set<String> seen = new TreeSet<>();
        for (Method m : FilmWhole.class.getDeclaredMethods()) {
            if (Modifier.isPrivate(m.getModifiers())) {
                check.holds(m.getName() + " is no name of the face", !faceNames().contains(m.getName()));
                continue;
            }
            check.holds(m + " is public, not static, and answers an int", Modifier.isPublic(m.getModifiers())
                    && !Modifier.isStatic(m.getModifiers()) && m.getReturnType() == int.class);
            seen.add(m.getName() + Arrays.toString(m.getParameterTypes()));
        }
        check.holds("the document's methods, seen are " + seen, seen.equals(new TreeSet<>(FACE)));
    }

    private static void checkFields(Check check) {
        Set<String> seen = new TreeSet<>();
        for (Field f : FilmWhole.class.getDeclaredFields()) {
            if (Modifier.isStatic(f.getModifiers())) {
                check.holds(f + " is final", Modifier.isFinal(f.getModifiers()));
            }
            if (!Modifier.isPrivate(f.getModifiers())) {
                check.holds(f + " is a public constant", Modifier.isPublic(f.getModifiers())
                        && Modifier.isStatic(f.getModifiers()) && f.getType() == int.class);
                seen.add(f.getName());
            }
        }
        check.holds("the document's constants", seen.equals(new TreeSet<>(List.of("BAD", "NO", "FULL", "NONE"))));
    }

    private static void checkInside(Check check, Class<?> inside) {
        int how = inside.getModifiers();
        check.holds(inside + " is static and not public or protected",
                Modifier.isStatic(how) && !Modifier.isPublic(how) && !Modifier.isProtected(how));
        for (Method m : inside.getDeclaredMethods()) {
            check.holds(m + " is no name of the face", !faceNames().contains(m.getName()));
            check.holds(m + " takes at most seven", m.getParameterCount() <= 7);
        }
    }
}
