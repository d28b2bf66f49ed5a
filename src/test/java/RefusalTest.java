import java.util.ArrayList;
import java.util.List;
import java.util.function.Supplier;
import java.util.function.ToIntFunction;

/**
 * "BAD: a number is none that is told, there is no such thing. NO: not as things stand. FULL. Of several the first;
 * nothing changes then.": each refused call is made in films of several kinds, and all that can be asked afterwards is
 * answered as by a film of which nothing was refused. The same is asked of calls that only look.
 */
public final class RefusalTest extends Films {
    private static final int[] WRONG = {LOW, LOW + 1, -65536, -7, 101, 65536, HIGH - 1, HIGH};

    private record Call(String told, ToIntFunction<FilmWhole> made) {
    }

    private RefusalTest() {
    }

    public static void main(String[] args) {
        says("BAD: a number is none that is told, there is no such thing.");
        nothingChanges("a new one", FilmWhole::new, BAD, badInAnyFilm());
        nothingChanges("a new one", FilmWhole::new, BAD, badWithoutMembers());
        nothingChanges("a small one", RefusalTest::small, BAD, badInAnyFilm());
        nothingChanges("a small one", RefusalTest::small, BAD, badInSmall());
        says("NO: not as things stand.");
        nothingChanges("a new one", FilmWhole::new, NO, List.of(new Call("undo()", FilmWhole::undo)));
        nothingChanges("a small one", RefusalTest::small, NO, noInSmall());
        nothingChanges("one with all STEPS undone", RefusalTest::undone, NO, List.of(new Call("undo()", FilmWhole::undo)));
        says("FULL.");
        nothingChanges("a full one", RefusalTest::full, FULL, fullInFull());
        says("Of several the first");
        nothingChanges("a full one", RefusalTest::full, BAD, badInAnyFilm());
        nothingChanges("a full one", RefusalTest::full, BAD, badAndFull());
        says("nothing changes then");
        looking();
        CHECK.end();
    }

    /** Three COPIES, of which the last has no FRAMES, six PLACES of two SHOTS, two notes, two CUES and two STEPS. */
    private static FilmWhole small() {
        FilmWhole x = film(reel(f(1, 2, 0), f(2, 8, 0), f(3, 1, 0), f(5, 4, 1)), reel(f(1, 9, 0), f(3, 0, 1), f(9, 9, 0)), reel());
        script(x, 0, 1, 2, 3);
        script(x, 5, 5, 8, 50);
        x.note(0, 1, 2, 6);
        x.note(1, 0, 2, 7);
        x.cue(3, 1, 10);
        x.cue(1, 3, 4);
        x.wear(1, 2, 3);
        x.wear(0, 0, 2);
        x.rule(0, 1);
        x.rule(2, 3);
        return x;
    }

    private static FilmWhole undone() {
        FilmWhole x = small();
        x.undo();
        x.undo();
        return x;
    }

    /** All that has a limit is at it. */
    private static FilmWhole full() {
        FilmWhole x = new FilmWhole();
        for (int c = 0; c < 6; c++) {
            x.copy();
            for (int i = 0; i < 40; i += 4) {
                long told = 0;
                for (int k = i; k < i + 4; k++) {
                    told = told << 16 | bits((k + c) % 64, (k * c) % 10, k / 9 % 2);
                }
                x.frames(c, 4, told);
            }
        }
        for (int p = 0; p < 40; p++) {
            x.place(p, p / 7);
        }
        for (int n = 0; n < 12; n++) {
            x.note(n % 6, n, n + 20, 1 + n % 9);
        }
        for (int n = 0; n < 20; n++) {
            x.cue(n % 6, (n + 1 + n % 4) % 6, 5 * n + 1);
        }
        for (int n = 0; n < 31; n++) {
            x.wear(n % 6, n, n % 10);
        }
        x.rule(0, 1);
        return x;
    }

    private static void call(List<Call> to, String told, ToIntFunction<FilmWhole> made) {
        to.add(new Call(told, made));
    }

    /** Calls with one number that is none in any film, the others being good where there are members. */
    private static List<Call> badInAnyFilm() {
        List<Call> calls = new ArrayList<>();
        for (int w : WRONG) {
            call(calls, "frame(" + w + ", 0, 0, 0)", x -> x.frame(w, 0, 0, 0));
            call(calls, "frame(0, " + w + ", 0, 0)", x -> x.frame(0, w, 0, 0));
            call(calls, "frame(0, 0, " + w + ", 0)", x -> x.frame(0, 0, w, 0));
            call(calls, "frame(0, 0, 0, " + w + ")", x -> x.frame(0, 0, 0, w));
            call(calls, "frames(" + w + ", 1, 0)", x -> x.frames(w, 1, 0));
            call(calls, "frames(0, " + w + ", 0)", x -> x.frames(0, w, 0));
            call(calls, "at(" + w + ", 0, 0)", x -> x.at(w, 0, 0));
            call(calls, "at(0, " + w + ", 0)", x -> x.at(0, w, 0));
            call(calls, "at(0, 0, " + w + ")", x -> x.at(0, 0, w));
            call(calls, "wear(" + w + ", 0, 0)", x -> x.wear(w, 0, 0));
            call(calls, "wear(0, " + w + ", 0)", x -> x.wear(0, w, 0));
            call(calls, "wear(0, 0, " + w + ")", x -> x.wear(0, 0, w));
            call(calls, "place(" + w + ", 0)", x -> x.place(w, 0));
            call(calls, "place(0, " + w + ")", x -> x.place(0, w));
            call(calls, "rule(" + w + ", 0)", x -> x.rule(w, 0));
            for (int what = 0; what <= 3; what++) {
                int which = what;
                call(calls, "rule(" + what + ", " + w + ")", x -> x.rule(which, w));
            }
            call(calls, "line(" + w + ", -1, -1)", x -> x.line(w, -1, -1));
            call(calls, "line(-1, " + w + ", -1)", x -> x.line(-1, w, -1));
            call(calls, "line(-1, -1, " + w + ")", x -> x.line(-1, -1, w));
            call(calls, "stands(" + w + ", 0)", x -> x.stands(w, 0));
            call(calls, "stands(0, " + w + ")", x -> x.stands(0, w));
            call(calls, "whole(" + w + ")", x -> x.whole(w));
            call(calls, "about(" + w + ")", x -> x.about(w));
            call(calls, "mend(" + w + ")", x -> x.mend(w));
            call(calls, "note(" + w + ", 0, 0, 1)", x -> x.note(w, 0, 0, 1));
            call(calls, "note(0, " + w + ", 0, 1)", x -> x.note(0, w, 0, 1));
            call(calls, "note(0, 0, " + w + ", 1)", x -> x.note(0, 0, w, 1));
            call(calls, "note(0, 0, 0, " + w + ")", x -> x.note(0, 0, 0, w));
            call(calls, "tint(" + w + ")", x -> x.tint(w));
            call(calls, "cue(" + w + ", 0, 1)", x -> x.cue(w, 0, 1));
            call(calls, "cue(0, " + w + ", 1)", x -> x.cue(0, w, 1));
            call(calls, "cue(0, 1, " + w + ")", x -> x.cue(0, 1, w));
            call(calls, "order(" + w + ", 0)", x -> x.order(w, 0));
            call(calls, "order(2, below)", x -> x.order(2, Math.min(w, -3)));
            call(calls, "count(" + w + ")", x -> x.count(w));
        }
        call(calls, "cue(3, 3, 1)", x -> x.cue(3, 3, 1));
        call(calls, "cue(0, 1, 0)", x -> x.cue(0, 1, 0));
        call(calls, "rule(0, 6)", x -> x.rule(0, 6));
        return calls;
    }

    private static List<Call> badWithoutMembers() {
        List<Call> calls = new ArrayList<>();
        call(calls, "frame(0, 0, 0, 0)", x -> x.frame(0, 0, 0, 0));
        call(calls, "frames(0, 1, 0)", x -> x.frames(0, 1, 0));
        call(calls, "at(0, 0, 0)", x -> x.at(0, 0, 0));
        call(calls, "wear(0, 0, 0)", x -> x.wear(0, 0, 0));
        call(calls, "line(-1, 0, -1)", x -> x.line(-1, 0, -1));
        call(calls, "line(-1, -1, 0)", x -> x.line(-1, -1, 0));
        call(calls, "stands(0, 0)", x -> x.stands(0, 0));
        call(calls, "whole(0)", x -> x.whole(0));
        call(calls, "mend(0)", x -> x.mend(0));
        call(calls, "note(0, 0, 0, 1)", x -> x.note(0, 0, 0, 1));
        call(calls, "tint(0)", x -> x.tint(0));
        return calls;
    }

    /** Numbers that are just beside those that the small film has. */
    private static List<Call> badInSmall() {
        List<Call> calls = new ArrayList<>();
        call(calls, "frame(3, 0, 0, 0)", x -> x.frame(3, 0, 0, 0));
        call(calls, "frames(3, 1, 0)", x -> x.frames(3, 1, 0));
        call(calls, "frames(0, 0, 0)", x -> x.frames(0, 0, 0));
        call(calls, "frames(0, 5, 0)", x -> x.frames(0, 5, 0));
        call(calls, "frames: the last FRAME's lowest bit", x -> x.frames(0, 4, 1));
        call(calls, "frames: the last FRAME's WEAR", x -> x.frames(0, 4, bits(0, 10, 0)));
        call(calls, "frames: the first FRAME's WEAR", x -> x.frames(0, 4, bits(0, 10, 0) << 48));
        call(calls, "at(0, 4, 0)", x -> x.at(0, 4, 0));
        call(calls, "wear(0, 4, 0)", x -> x.wear(0, 4, 0));
        call(calls, "wear(2, 0, 0)", x -> x.wear(2, 0, 0));
        call(calls, "wear(0, 0, 10)", x -> x.wear(0, 0, 10));
        call(calls, "line(3, 0, -1)", x -> x.line(3, 0, -1));
        call(calls, "line(0, 3, -1)", x -> x.line(0, 3, -1));
        call(calls, "line(0, 1, 4)", x -> x.line(0, 1, 4));
        call(calls, "line(1, 0, 3)", x -> x.line(1, 0, 3));
        call(calls, "line(-1, 0, 6)", x -> x.line(-1, 0, 6));
        call(calls, "stands(3, 0)", x -> x.stands(3, 0));
        call(calls, "stands(0, 6)", x -> x.stands(0, 6));
        call(calls, "whole(6)", x -> x.whole(6));
        call(calls, "mend(6)", x -> x.mend(6));
        call(calls, "tint(6)", x -> x.tint(6));
        call(calls, "note(0, 3, 4, 1)", x -> x.note(0, 3, 4, 1));
        call(calls, "note(0, 2, 1, 1)", x -> x.note(0, 2, 1, 1));
        call(calls, "note(2, 0, 0, 1)", x -> x.note(2, 0, 0, 1));
        return calls;
    }

    private static List<Call> noInSmall() {
        List<Call> calls = new ArrayList<>();
        for (int place : new int[] {0, 2, 3, 4, 5}) {
            call(calls, "mend(" + place + ")", x -> x.mend(place));
        }
        return calls;
    }

    private static List<Call> fullInFull() {
        List<Call> calls = new ArrayList<>();
        call(calls, "copy()", FilmWhole::copy);
        for (int copy = 0; copy < 6; copy++) {
            int c = copy;
            call(calls, "frame(" + c + ", 63, 9, 1)", x -> x.frame(c, 63, 9, 1));
            for (int many = 1; many <= 4; many++) {
                int n = many;
                call(calls, "frames(" + c + ", " + n + ", 0)", x -> x.frames(c, n, 0));
            }
            call(calls, "note(" + c + ", 0, 39, 9)", x -> x.note(c, 0, 39, 9));
        }
        call(calls, "place(63, 5)", x -> x.place(63, 5));
        call(calls, "cue(5, 0, 100)", x -> x.cue(5, 0, 100));
        return calls;
    }

    /** Numbers just beside those that are told, where a good call would be FULL. */
    private static List<Call> badAndFull() {
        List<Call> calls = new ArrayList<>();
        call(calls, "frame(6, 0, 0, 0)", x -> x.frame(6, 0, 0, 0));
        call(calls, "frame(0, 64, 0, 0)", x -> x.frame(0, 64, 0, 0));
        call(calls, "frame(0, 0, 10, 0)", x -> x.frame(0, 0, 10, 0));
        call(calls, "frame(0, 0, 0, 2)", x -> x.frame(0, 0, 0, 2));
        call(calls, "frames(6, 1, 0)", x -> x.frames(6, 1, 0));
        call(calls, "frames(0, 0, 0)", x -> x.frames(0, 0, 0));
        call(calls, "frames(0, 5, 0)", x -> x.frames(0, 5, 0));
        call(calls, "frames(0, 1, 16)", x -> x.frames(0, 1, 16));
        call(calls, "frames(0, 1, WEAR 10)", x -> x.frames(0, 1, bits(0, 10, 0)));
        call(calls, "place(64, 0)", x -> x.place(64, 0));
        call(calls, "place(0, 6)", x -> x.place(0, 6));
        call(calls, "note(6, 0, 0, 1)", x -> x.note(6, 0, 0, 1));
        call(calls, "note(0, 0, 40, 1)", x -> x.note(0, 0, 40, 1));
        call(calls, "note(0, -1, 0, 1)", x -> x.note(0, -1, 0, 1));
        call(calls, "note(0, 1, 0, 1)", x -> x.note(0, 1, 0, 1));
        call(calls, "note(0, 0, 0, 0)", x -> x.note(0, 0, 0, 0));
        call(calls, "note(0, 0, 0, 10)", x -> x.note(0, 0, 0, 10));
        call(calls, "cue(2, 2, 1)", x -> x.cue(2, 2, 1));
        call(calls, "cue(6, 0, 1)", x -> x.cue(6, 0, 1));
        call(calls, "cue(0, 1, 0)", x -> x.cue(0, 1, 0));
        call(calls, "wear(0, 40, 0)", x -> x.wear(0, 40, 0));
        call(calls, "mend(40)", x -> x.mend(40));
        call(calls, "whole(40)", x -> x.whole(40));
        call(calls, "tint(40)", x -> x.tint(40));
        return calls;
    }

    private static void nothingChanges(String kind, Supplier<FilmWhole> film, int want, List<Call> calls) {
        List<String> before = seen(film, x -> want);
        for (Call c : calls) {
            due(c.told() + " of " + kind, want, c.made().applyAsInt(film.get()));
            List<String> after = seen(film, c.made());
            for (int k = 0; k < before.size(); k++) {
                CHECK.holds(c.told() + " of " + kind + ": " + before.get(k) + " became " + after.get(k),
                        before.get(k).equals(after.get(k)));
            }
        }
    }

    /** Calls that only look: each twice, as what they use inside must not show either. */
    private static void looking() {
        List<Call> calls = new ArrayList<>();
        call(calls, "at", x -> x.at(0, 0, 1));
        call(calls, "line", x -> x.line(1, 0, 0));
        call(calls, "line of THE SCRIPT", x -> x.line(0, -1, -1));
        call(calls, "stands", x -> x.stands(1, 0));
        call(calls, "whole", x -> x.whole(-1));
        call(calls, "about", x -> x.about(1));
        call(calls, "tint", x -> x.tint(1));
        call(calls, "order", x -> x.order(3, 0));
        call(calls, "count", x -> x.count(4));
        List<Supplier<FilmWhole>> films = List.of(RefusalTest::small, RefusalTest::full);
        for (Supplier<FilmWhole> film : films) {
            List<String> before = seen(film, x -> 0);
            for (Call c : calls) {
                FilmWhole x = film.get();
                due(c.told() + " again", c.made().applyAsInt(x), c.made().applyAsInt(x));
                CHECK.holds(c.told() + " changes nothing", before.equals(seen(film, c.made())));
            }
        }
    }

    // All that can be asked is more than the 512 calls of one object, so each kind of question gets an object of its own.
    private static List<String> seen(Supplier<FilmWhole> film, ToIntFunction<FilmWhole> made) {
        List<String> all = new ArrayList<>();
        for (int what = 0; what <= 2; what++) {
            FilmWhole x = film.get();
            made.applyAsInt(x);
            all.add("at(.., .., " + what + ")" + seenFrames(x, what));
        }
        FilmWhole x = film.get();
        made.applyAsInt(x);
        all.add("counts" + seenCounts(x));
        all.add("THE WHOLE" + seenWhole(x));
        all.add("THE ORDER" + seenOrder(x));
        all.add("rules" + seenRules(x));
        all.add("STEPS" + seenSteps(x));
        return all;
    }

    private static String seenFrames(FilmWhole x, int what) {
        StringBuilder text = new StringBuilder();
        for (int c = 0; c <= 6; c++) {
            int got = 0;
            for (int i = 0; i <= 40 && got >= 0; i++) {
                got = x.at(c, i, what);
                text.append(' ').append(got);
            }
        }
        return text.toString();
    }

    private static String seenCounts(FilmWhole x) {
        StringBuilder text = new StringBuilder();
        for (int what = 0; what <= 4; what++) {
            text.append(' ').append(x.count(what));
        }
        return text.toString();
    }

    private static String seenWhole(FilmWhole x) {
        StringBuilder text = new StringBuilder();
        for (int what = 0; what <= 2; what++) {
            text.append(' ').append(x.about(what));
        }
        for (int i = -1; i < x.count(1); i++) {
            text.append(' ').append(x.whole(i));
            text.append(' ').append(x.tint(i));
        }
        for (int c = -1; c < x.count(0); c++) {
            text.append(' ').append(x.line(-1, c, -1));
        }
        return text.toString();
    }

    private static String seenOrder(FilmWhole x) {
        StringBuilder text = new StringBuilder();
        for (int n = 2; n <= 6; n++) {
            for (int i = -2; i <= n; i++) {
                text.append(' ').append(x.order(n, i));
            }
        }
        return text.toString();
    }

    private static String seenRules(FilmWhole x) {
        StringBuilder text = new StringBuilder();
        for (int what = 0; what <= 3; what++) {
            text.append(' ').append(x.rule(what, 0));
        }
        return text.toString();
    }

    private static String seenSteps(FilmWhole x) {
        StringBuilder text = new StringBuilder();
        int got = 0;
        for (int k = 0; k <= 30 && got >= 0; k++) {
            got = x.undo();
            text.append(' ').append(got);
            if (got >= 0) {
                text.append('=').append(x.at(got / 100, got % 100, 1));
            }
        }
        return text.toString();
    }
}
