/** Each promise of the document by hand: ordinary inputs, the edges that it names, and wrong inputs. */
public final class PromiseTest extends Films {
    private PromiseTest() {
    }

    public static void main(String[] args) {
        promise1NewObject();
        promise2Copy();
        promise3Frame();
        promise4Frames();
        promise4BitsAbove();
        promise5At();
        promise6Wear();
        promise7Place();
        promise8NoScript();
        promise9Rule();
        promise10Line();
        promise10LineTies();
        promise10LineFullRows();
        promise11Stands();
        promise12WholeWearAndLost();
        promise12WholeChangeAndMix();
        promise12WholeTies();
        promise12WholeFullScript();
        promise13About();
        promise14Mend();
        promise14MendNot();
        promise15Note();
        promise16Tint();
        promise17Cue();
        promise18NoCues();
        promise19Order();
        promise20Undo();
        promise21Count();
        CHECK.end();
    }

    private static void promise1NewObject() {
        FilmWhole x = new FilmWhole();
        for (int what = 0; what <= 4; what++) {
            due("new: count(" + what + ")", 0, x.count(what));
        }
        due("new: at", BAD, x.at(0, 0, 0));
        due("new: whole(-1)", 0, x.whole(-1));
        due("new: whole(0)", BAD, x.whole(0));
        due("new: undo", NO, x.undo());
        due("new: order(6, -2)", 720, x.order(6, -2));
        int[] first = {0, 20, 4, 30};
        for (int what = 0; what <= 3; what++) {
            due("new: rule " + what, first[what], x.rule(what, first[what]));
        }
        FilmWhole other = new FilmWhole();
        x.copy();
        x.place(1, 1);
        x.rule(0, 3);
        x.cue(0, 1, 1);
        due("another object has its own", 0, other.count(0) + other.count(1) + other.count(3) + other.rule(0, 0));
    }

    private static void promise2Copy() {
        FilmWhole x = new FilmWhole();
        for (int c = 0; c < 6; c++) {
            due("copy", c, x.copy());
            due("without FRAMES", BAD, x.at(c, 0, 0));
        }
        due("a seventh copy", FULL, x.copy());
        due("copies after FULL", 6, x.count(0));
    }

    private static void promise3Frame() {
        FilmWhole x = new FilmWhole();
        due("no copy", BAD, x.frame(0, 0, 0, 0));
        x.copy();
        x.copy();
        due("frame lowest", 1, x.frame(0, 0, 0, 0));
        due("frame highest", 2, x.frame(0, 63, 9, 1));
        due("frame of another copy", 1, x.frame(1, 5, 5, 0));
        int[][] wrong = {{-1, 0, 0, 0}, {2, 0, 0, 0}, {LOW, 0, 0, 0}, {HIGH, 0, 0, 0}, {0, -1, 0, 0}, {0, 64, 0, 0},
            {0, 0, -1, 0}, {0, 0, 10, 0}, {0, 0, 0, -1}, {0, 0, 0, 2}, {0, LOW, HIGH, HIGH}};
        for (int[] w : wrong) {
            due("wrong frame", BAD, x.frame(w[0], w[1], w[2], w[3]));
        }
        for (int n = 3; n <= 40; n++) {
            due("frame", n, x.frame(0, n, n % 10, n % 2));
        }
        due("frame 41", FULL, x.frame(0, 0, 0, 0));
        due("BAD goes before FULL", BAD, x.frame(0, 64, 0, 0));
        due("the last", 40, x.at(0, 39, 0));
        due("none behind it", BAD, x.at(0, 40, 0));
    }

    private static void promise4Frames() {
        FilmWhole x = new FilmWhole();
        due("no copy", BAD, x.frames(0, 1, 0));
        x.copy();
        due("one", 1, x.frames(0, 1, bits(7, 8, 1)));
        due("its mark", 7, x.at(0, 0, 0));
        due("its wear", 8, x.at(0, 0, 1));
        due("its camera", 1, x.at(0, 0, 2));
        long four = bits(63, 9, 1) << 48 | bits(32, 1, 0) << 32 | bits(1, 2, 1) << 16 | bits(2, 0, 0);
        due("four, the sign bit too", 5, x.frames(0, 4, four));
        int[][] want = {{63, 9, 1}, {32, 1, 0}, {1, 2, 1}, {2, 0, 0}};
        for (int k = 0; k < 4; k++) {
            for (int what = 0; what <= 2; what++) {
                due("frames: at(0, " + (k + 1) + ", " + what + ")", want[k][what], x.at(0, k + 1, what));
            }
        }
        for (int n : new int[] {LOW, -1, 0, 5, HIGH}) {
            due("n " + n, BAD, x.frames(0, n, 0));
        }
        for (int c : new int[] {LOW, -1, 1, HIGH}) {
            due("copy " + c, BAD, x.frames(c, 1, 0));
        }
        for (int low = 0; low < 5; low++) {
            due("one of the lowest 5", BAD, x.frames(0, 1, 1L << low));
            due("one of the lowest 5 of the first", BAD, x.frames(0, 4, 1L << 48 + low));
        }
        for (int wear = 10; wear <= 15; wear++) {
            due("a wear that is none", BAD, x.frames(0, 2, bits(0, wear, 0)));
            due("a wear that is none in the first", BAD, x.frames(0, 2, bits(0, wear, 0) << 16));
        }
        due("none was put", BAD, x.at(0, 5, 0));
        for (int n = 9; n <= 37; n += 4) {
            due("four more", n, x.frames(0, 4, 0));
        }
        due("four are too many", FULL, x.frames(0, 4, 0));
        due("BAD goes before FULL", BAD, x.frames(0, 4, 1));
        due("none of them was put", BAD, x.at(0, 37, 0));
        due("three are not", 40, x.frames(0, 3, 0));
        due("one is too many", FULL, x.frames(0, 1, 0));
    }

    private static void promise4BitsAbove() {
        for (int n = 1; n <= 3; n++) {
            FilmWhole x = new FilmWhole();
            x.copy();
            long told = 0;
            for (int k = 0; k < n; k++) {
                told = told << 16 | bits(40 + k, 3 + k, 1);
            }
            for (int bit = 16 * n; bit < 64; bit++) {
                FilmWhole one = new FilmWhole();
                one.copy();
                due("bit " + bit + " above those of " + n, n, one.frames(0, n, told | 1L << bit));
            }
            due("all bits above those of " + n, n, x.frames(0, n, told | -1L << 16 * n));
            for (int k = 0; k < n; k++) {
                due("a mark below other bits", 40 + k, x.at(0, k, 0));
                due("a wear below other bits", 3 + k, x.at(0, k, 1));
                due("a camera below other bits", 1, x.at(0, k, 2));
            }
            due("no more than n are put", BAD, x.at(0, n, 0));
            due("a low bit below other bits", BAD, x.frames(0, n, -1L << 16 * n | 1));
            due("a wear that is none below other bits", BAD, x.frames(0, n, -1L << 16 * n | bits(0, 10, 0)));
        }
    }

    private static void promise5At() {
        FilmWhole x = film(reel(f(1, 2, 0), f(63, 9, 1)), reel());
        due("mark", 63, x.at(0, 1, 0));
        due("wear", 9, x.at(0, 1, 1));
        due("camera", 1, x.at(0, 1, 2));
        due("first mark", 1, x.at(0, 0, 0));
        int[][] wrong = {{-1, 0, 0}, {2, 0, 0}, {0, -1, 0}, {0, 2, 0}, {1, 0, 0}, {0, 0, -1}, {0, 0, 3},
            {HIGH, 0, 0}, {0, HIGH, 0}, {0, LOW, 0}, {0, 0, LOW}};
        for (int[] w : wrong) {
            due("wrong at", BAD, x.at(w[0], w[1], w[2]));
        }
    }

    private static void promise6Wear() {
        FilmWhole x = film(reel(f(1, 2, 0), f(3, 9, 1)));
        due("wear", 9, x.wear(0, 1, 0));
        due("is so", 0, x.at(0, 1, 1));
        due("what it was", 0, x.wear(0, 1, 9));
        due("the same again is a STEP too", 9, x.wear(0, 1, 9));
        due("STEPS", 3, x.count(4));
        int[][] wrong = {{-1, 0, 0}, {1, 0, 0}, {0, -1, 0}, {0, 2, 0}, {0, 0, -1}, {0, 0, 10}, {0, HIGH, 0}, {LOW, 0, 0}};
        for (int[] w : wrong) {
            due("wrong wear", BAD, x.wear(w[0], w[1], w[2]));
        }
        due("no STEP of these", 3, x.count(4));
        due("nothing changed", 2, x.at(0, 0, 1));
    }

    private static void promise7Place() {
        FilmWhole x = new FilmWhole();
        due("lowest", 1, x.place(0, 0));
        due("highest", 2, x.place(63, 5));
        int[][] wrong = {{-1, 0}, {64, 0}, {0, -1}, {0, 6}, {LOW, 0}, {0, HIGH}};
        for (int[] w : wrong) {
            due("wrong place", BAD, x.place(w[0], w[1]));
        }
        for (int n = 3; n <= 40; n++) {
            due("place", n, x.place(n, n % 6));
        }
        due("place 41", FULL, x.place(0, 0));
        due("BAD goes before FULL", BAD, x.place(0, 6));
        due("places", 40, x.count(1));
    }

    private static void promise8NoScript() {
        FilmWhole x = film(reel(f(1, 2, 0)));
        due("empty", 0, x.noScript());
        script(x, 0, 1, 2, 3);
        x.wear(0, 0, 5);
        x.note(0, 0, 0, 1);
        x.cue(0, 1, 1);
        due("had", 3, x.noScript());
        due("is empty", 0, x.count(1));
        due("no place", BAD, x.whole(0));
        due("COPIES, notes, CUES and STEPS stay", 4, x.count(0) + x.count(2) + x.count(3) + x.count(4));
        due("a new first place", 1, x.place(1, 0));
        due("of the copy", 0, x.whole(0));
    }

    private static void promise9Rule() {
        FilmWhole x = new FilmWhole();
        int[] was = {0, 20, 4, 30};
        for (int what = 0; what <= 3; what++) {
            int top = what == 0 ? 5 : 100;
            due("rule above", BAD, x.rule(what, top + 1));
            due("rule below", BAD, x.rule(what, -1));
            due("rule far", BAD, x.rule(what, what % 2 == 0 ? HIGH : LOW));
            due("rule at first", was[what], x.rule(what, top));
            due("rule highest", top, x.rule(what, 0));
            due("rule lowest", 0, x.rule(what, 0));
        }
        for (int what : new int[] {LOW, -1, 4, HIGH}) {
            due("no rule " + what, BAD, x.rule(what, 0));
        }
    }

    private static void promise10Line() {
        FilmWhole x = marked(row(1, 2, 3), row(1, 3), row());
        dueLine(x, 0, 0, 0, 0, 1, 2);
        dueLine(x, 0, 1, 3, 0, NONE, 1);
        dueLine(x, 1, 0, 3, 0, 2);
        dueLine(x, 0, 2, 9, NONE, NONE, NONE);
        dueLine(x, 2, 0, 9);
        dueLine(x, -1, 0, 9);
        dueLine(x, 0, -1, 9, NONE, NONE, NONE);
        dueLine(x, -1, -1, 0);
        script(x, 0, 2);
        dueLine(x, -1, 0, 6, 1);
        dueLine(x, 0, -1, 6, NONE, 0, NONE);
        dueLine(x, -1, -1, 0, 0);
        int[][] wrong = {{-2, 0}, {0, -2}, {3, 0}, {0, 3}, {LOW, 0}, {0, HIGH}};
        for (int[] w : wrong) {
            due("no such row", BAD, x.line(w[0], w[1], -1));
        }
        due("far behind", BAD, x.line(0, 1, HIGH));
        due("far ahead", BAD, x.line(0, 1, LOW));
    }

    private static void promise10LineTies() {
        // A pair costs 5 at most, two unpaired ones cost 6.
        dueLine(marked(row(0), row(63)), 0, 1, 5, 0);
        dueLine(marked(row(0), row(4)), 0, 1, 4, 0);
        // Both can pair with the first: the first pairs.
        dueLine(marked(row(7, 7), row(7)), 0, 1, 3, 0, NONE);
        dueLine(marked(row(7), row(7, 7)), 0, 1, 3, 0);
        // 6 either way: leaving the first of the second row unpaired goes before leaving that of the first.
        dueLine(marked(row(10, 20), row(20, 10)), 0, 1, 6, 1, NONE);
        dueLine(marked(row(20, 10), row(10, 20)), 0, 1, 6, 1, NONE);
        // The first ones pair only if that can lead to the least: 3 + 3 cannot.
        dueLine(marked(row(5, 8), row(8)), 0, 1, 3, NONE, 0);
        dueLine(marked(row(4, 5), row(5, 4, 5)), 0, 1, 3, 1, 2);
        // The first ones pair at once if that costs as much as to pair later.
        dueLine(marked(row(5, 5), row(4, 6, 5)), 0, 1, 4, 0, 2);
    }

    private static void promise10LineFullRows() {
        FilmWhole x = new FilmWhole();
        x.copy();
        x.copy();
        for (int i = 0; i < 40; i++) {
            x.frame(0, i, 0, 0);
            x.frame(1, i + 20, 0, 0);
            x.place(0, 0);
        }
        due("twenty shifted", 120, x.line(0, 1, -1));
        due("first", NONE, x.line(0, 1, 19));
        due("shared first", 0, x.line(0, 1, 20));
        due("shared last", 19, x.line(0, 1, 39));
        due("the other way", 39, x.line(1, 0, 19));
        due("behind", BAD, x.line(0, 1, 40));
        due("script", 0 + 1 + 2 + 3 + 4 + 5 * 35, x.line(-1, 0, -1));
    }

    private static void promise11Stands() {
        FilmWhole x = marked(row(10, 22, 30), row());
        script(x, 0, 10, 20, 30, 40);
        due("alike", 0, x.stands(0, 0));
        due("too far for NEAR 0", NONE, x.stands(0, 1));
        due("alike", 2, x.stands(0, 2));
        due("no pair", NONE, x.stands(0, 3));
        due("no frames", NONE, x.stands(1, 0));
        x.rule(0, 1);
        due("too far for NEAR 1", NONE, x.stands(0, 1));
        x.rule(0, 2);
        due("near enough", 1, x.stands(0, 1));
        int[][] wrong = {{-1, 0}, {2, 0}, {0, -1}, {0, 4}, {HIGH, 0}, {0, LOW}};
        for (int[] w : wrong) {
            due("wrong stands", BAD, x.stands(w[0], w[1]));
        }
        FilmWhole far = marked(row(0));
        script(far, 0, 6);
        far.rule(0, 5);
        due("a pair of COST 5 whose MARKS differ by 6", NONE, far.stands(0, 0));
        due("is a pair", 0, far.line(-1, 0, 0));
    }

    private static void promise12WholeWearAndLost() {
        FilmWhole x = film(reel(f(1, 5, 0), f(2, 9, 0)), reel(f(1, 3, 0)));
        due("no script", 0, x.whole(-1));
        due("no place", BAD, x.whole(0));
        due("below", BAD, x.whole(-2));
        script(x, 0, 1);
        dueWhole(x, "least WEAR", 3, 1);
        script(x, 1, 2, 50);
        dueWhole(x, "other SHOTS", 3 + 9 + 20, 1, 0, NONE);
        x.rule(1, 8);
        dueWhole(x, "LOST pays", 3 + 8 + 8, 1, NONE, NONE);
        x.rule(1, 9);
        dueWhole(x, "a COPY is lower than LOST", 3 + 9 + 9, 1, 0, NONE);
        x.rule(1, 0);
        dueWhole(x, "all LOST", 0, NONE, NONE, NONE);
        due("far", BAD, x.whole(HIGH));
        due("far below", BAD, x.whole(LOW));
    }

    private static void promise12WholeChangeAndMix() {
        int[][] one = reel(f(1, 0, 0), f(2, 5, 0), f(3, 0, 0));
        FilmWhole x = film(one, reel(f(1, 5, 0), f(2, 0, 0), f(3, 5, 0)));
        script(x, 0, 1, 2, 3);
        dueWhole(x, "two changes cost more", 5, 0, 0, 0);
        x.rule(2, 2);
        dueWhole(x, "two changes pay", 4, 0, 1, 0);
        FilmWhole mixed = film(one, reel(f(1, 5, 0), f(2, 0, 1), f(3, 5, 0)));
        script(mixed, 0, 1, 2, 3);
        mixed.rule(2, 0);
        dueWhole(mixed, "another camera", 5, 0, 0, 0);
        mixed.rule(3, 1);
        dueWhole(mixed, "MIX pays", 2, 0, 1, 0);
        FilmWhole shots = film(one, reel(f(1, 5, 0), f(2, 0, 1), f(3, 5, 0)));
        shots.place(1, 0);
        shots.place(2, 1);
        shots.place(3, 0);
        dueWhole(shots, "other SHOTS: no change, no mix", 0, 0, 1, 0);
        FilmWhole within = film(reel(f(1, 1, 0), f(2, 1, 1), f(3, 1, 0)));
        script(within, 0, 1, 2, 3);
        dueWhole(within, "cameras unlike within one COPY: LOST between", 22, 0, NONE, 0);
        within.rule(3, 9);
        dueWhole(within, "cameras unlike within one COPY", 21, 0, 0, 0);
    }

    private static void promise12WholeTies() {
        int[][] alike = reel(f(1, 2, 0), f(2, 2, 0));
        FilmWhole x = film(alike, alike, alike);
        script(x, 0, 1, 2);
        dueWhole(x, "the lowest of equal ones", 4, 0, 0);
        x.rule(2, 0);
        dueWhole(x, "the lowest even if changes are free", 4, 0, 0);
        x.wear(0, 1, 3);
        dueWhole(x, "the first PLACE at which they part", 4, 0, 1);
        FilmWhole three = film(reel(f(1, 2, 0), f(2, 3, 0)), reel(f(1, 3, 0), f(2, 2, 0)));
        script(three, 0, 1, 2);
        three.rule(2, 1);
        dueWhole(three, "of 0 0, 0 1 and 1 1 the lowest", 5, 0, 0);
        FilmWhole first = film(reel(f(1, 0, 0)), reel(f(1, 0, 0), f(2, 0, 0)));
        script(first, 0, 1, 2);
        first.rule(2, 0);
        dueWhole(first, "then another", 0, 0, 1);
    }

    private static void promise12WholeFullScript() {
        FilmWhole x = new FilmWhole();
        for (int c = 0; c < 6; c++) {
            x.copy();
            for (int i = 0; i < 40; i++) {
                x.frame(c, i, i % 6 == c ? 0 : 9, i % 2);
            }
        }
        for (int i = 0; i < 40; i++) {
            x.place(i, i % 2);
        }
        due("each from the best", 0, x.whole(-1));
        due("the last one", 39 % 6, x.whole(39));
        x.noScript();
        for (int i = 0; i < 40; i++) {
            x.place(i, 0);
        }
        x.rule(1, 100);
        x.rule(2, 100);
        x.rule(3, 100);
        // Side by side costs 100 for MIX, as much as a LOST one, and CHANGE or WEAR besides: every second one is LOST.
        due("every second one LOST", 2000, x.whole(-1));
        for (int i = 0; i < 40; i++) {
            due("whole(" + i + ")", i % 2 == 0 ? i % 6 : NONE, x.whole(i));
        }
        due("LOST ones", 20, x.about(0));
    }

    private static void promise13About() {
        FilmWhole x = film(reel(f(1, 0, 0), f(2, 9, 0), f(3, 0, 1), f(4, 9, 0)),
                reel(f(1, 9, 0), f(2, 0, 1), f(3, 9, 1), f(4, 0, 1)));
        due("LOST of none", 0, x.about(0));
        x.rule(2, 1);
        x.rule(3, 1);
        script(x, 0, 1, 2, 3, 4, 50);
        dueWhole(x, "changes and mixes", 0 + 3 + 1 + 20, 0, 1, 0, 1, NONE);
        due("LOST", 1, x.about(0));
        due("another COPY", 3, x.about(1));
        due("another CAMERA", 1, x.about(2));
        x.noScript();
        for (int i = 1; i <= 4; i++) {
            x.place(i, i % 2);
        }
        due("not across SHOTS", 0, x.about(1) + x.about(2));
        for (int what : new int[] {LOW, -1, 3, HIGH}) {
            due("about " + what, BAD, x.about(what));
        }
        FilmWhole gap = film(reel(f(1, 0, 0)), reel(f(3, 0, 1)));
        script(gap, 0, 1, 30, 3);
        dueWhole(gap, "a LOST one between", 20, 0, NONE, 1);
        due("the one ahead is LOST", 0, gap.about(1) + gap.about(2));
    }

    private static void promise14Mend() {
        FilmWhole x = film(reel(f(1, 2, 0), f(2, 9, 0), f(3, 4, 0)));
        script(x, 0, 1, 2, 3);
        due("the greater of the two", 4, x.mend(1));
        due("is so", 4, x.at(0, 1, 1));
        due("a STEP", 1, x.count(4));
        due("no more: not less than it", NO, x.mend(1));
        due("no STEP then", 1, x.count(4));
        due("undone", 1, x.undo());
        due("as it was", 9, x.at(0, 1, 1));
        due("first", NO, x.mend(0));
        due("last", NO, x.mend(2));
        for (int p : new int[] {LOW, -1, 3, HIGH}) {
            due("mend " + p, BAD, x.mend(p));
        }
    }

    private static void promise14MendNot() {
        int[][] told = reel(f(1, 2, 0), f(2, 9, 0), f(3, 4, 0));
        FilmWhole ahead = film(told);
        ahead.place(1, 1);
        script(ahead, 0, 2, 3);
        due("another SHOT ahead", NO, ahead.mend(1));
        FilmWhole behind = film(told);
        script(behind, 0, 1, 2);
        behind.place(3, 1);
        due("another SHOT behind", NO, behind.mend(1));
        FilmWhole equal = film(reel(f(1, 9, 0), f(2, 9, 0), f(3, 4, 0)));
        script(equal, 0, 1, 2, 3);
        due("as worn as it ahead", NO, equal.mend(1));
        FilmWhole worse = film(reel(f(1, 2, 0), f(2, 3, 0), f(3, 4, 0)));
        script(worse, 0, 1, 2, 3);
        due("more worn behind", NO, worse.mend(1));
        FilmWhole lost = film(reel(f(1, 2, 0), f(3, 4, 0)));
        script(lost, 0, 1, 50, 3);
        due("LOST itself", NO, lost.mend(1));
        FilmWhole gone = film(reel(f(2, 9, 0), f(3, 4, 0)));
        script(gone, 0, 50, 2, 3);
        due("LOST ahead", NO, gone.mend(1));
        FilmWhole other = film(told, reel(f(1, 0, 0)));
        other.rule(2, 0);
        script(other, 0, 1, 2, 3);
        dueWhole(other, "another COPY ahead", 13, 1, 0, 0);
        due("another COPY", NO, other.mend(1));
        FilmWhole between = film(reel(f(1, 2, 0), f(3, 4, 0)), reel(f(2, 9, 0)));
        script(between, 0, 1, 2, 3);
        dueWhole(between, "another COPY between", 2 + 9 + 4 + 8, 0, 1, 0);
        due("both of another COPY", NO, between.mend(1));
    }

    private static void promise15Note() {
        FilmWhole x = film(reel(f(1, 0, 0), f(2, 0, 0)), reel());
        int[][] wrong = {{-1, 0, 0, 1}, {2, 0, 0, 1}, {1, 0, 0, 1}, {0, -1, 0, 1}, {0, 0, 2, 1}, {0, 2, 2, 1}, {0, 1, 0, 1},
            {0, 0, 0, 0}, {0, 0, 0, 10}, {0, 0, -1, 1}, {0, 0, HIGH, 1}, {0, LOW, 0, 1}, {HIGH, 0, 0, 1}, {0, 0, 0, LOW}};
        for (int[] w : wrong) {
            due("wrong note", BAD, x.note(w[0], w[1], w[2], w[3]));
        }
        due("notes", 0, x.count(2));
        for (int n = 1; n <= 12; n++) {
            due("note", n, x.note(0, 0, n % 2, 1 + n % 9));
        }
        due("note 13", FULL, x.note(0, 0, 0, 1));
        due("BAD goes before FULL", BAD, x.note(0, 0, 2, 1));
        due("notes", 12, x.count(2));
    }

    private static void promise16Tint() {
        FilmWhole x = film(reel(f(1, 1, 0), f(2, 1, 0), f(3, 1, 0)), reel(f(1, 4, 0), f(2, 4, 0), f(3, 4, 0)),
                reel(f(1, 3, 0), f(2, 4, 0)));
        for (int p : new int[] {LOW, -1, 0, HIGH}) {
            due("no place", BAD, x.tint(p));
        }
        script(x, 0, 1, 2, 3, 50);
        due("no note", 0, x.tint(0));
        x.note(1, 0, 1, 5);
        due("of another COPY, first", 5, x.tint(0));
        due("of another COPY, last", 5, x.tint(1));
        due("behind it", 0, x.tint(2));
        x.note(2, 0, 1, 6);
        due("of the one with the least WEAR", 6, x.tint(0));
        due("of several the lowest", 5, x.tint(1));
        x.note(1, 1, 2, 7);
        due("the latest", 7, x.tint(1));
        due("the latest alone", 7, x.tint(2));
        x.note(0, 1, 1, 9);
        due("of the SOURCE", 9, x.tint(1));
        due("not of the SOURCE's other FRAMES", 6, x.tint(0));
        due("none stands", 0, x.tint(3));
        x.rule(1, 0);
        due("all LOST", NONE, x.whole(1));
        due("LOST: of the one with the least WEAR", 9, x.tint(1));
        x.wear(0, 1, 9);
        due("LOST: of several the lowest", 7, x.tint(1));
        due("behind the last", BAD, x.tint(4));
    }

    private static void promise17Cue() {
        FilmWhole x = new FilmWhole();
        int[][] wrong = {{-1, 0, 1}, {6, 0, 1}, {0, -1, 1}, {0, 6, 1}, {2, 2, 1}, {0, 1, 0}, {0, 1, 101}, {0, 1, -5},
            {LOW, 1, 1}, {0, HIGH, 1}, {0, 1, HIGH}};
        for (int[] w : wrong) {
            due("wrong cue", BAD, x.cue(w[0], w[1], w[2]));
        }
        due("cues", 0, x.count(3));
        for (int n = 1; n <= 20; n++) {
            due("cue", n, x.cue(5, 0, n == 1 ? 1 : 100));
        }
        due("cue 21", FULL, x.cue(0, 1, 1));
        due("BAD goes before FULL", BAD, x.cue(0, 0, 1));
        due("cues", 20, x.count(3));
        due("order heeds them", 0, x.order(6, 5));
    }

    private static void promise18NoCues() {
        FilmWhole x = new FilmWhole();
        due("none", 0, x.noCues());
        x.cue(1, 0, 3);
        x.cue(1, 0, 3);
        due("had", 2, x.noCues());
        due("gone", 0, x.count(3));
        due("order", 0, x.order(2, 0));
        due("rivals", 2, x.order(2, -2));
        due("a new first one", 1, x.cue(0, 1, 1));
        due("rivals", 1, x.order(2, -2));
    }

    private static void promise19Order() {
        FilmWhole x = new FilmWhole();
        for (int n : new int[] {LOW, -1, 0, 1, 7, HIGH}) {
            due("n " + n, BAD, x.order(n, 0));
        }
        due("i -3", BAD, x.order(2, -3));
        due("i far below", BAD, x.order(2, LOW));
        due("i 2 of 2", NONE, x.order(2, 2));
        due("i far above", NONE, x.order(6, HIGH));
        int[] all = {2, 6, 24, 120, 720};
        for (int n = 2; n <= 6; n++) {
            due("rivals of " + n, all[n - 2], x.order(n, -2));
            due("quarrel of " + n, 0, x.order(n, -1));
            due("last of " + n, n - 1, x.order(n, n - 1));
            due("behind the last of " + n, NONE, x.order(n, n));
        }
        x.cue(2, 0, 10);
        x.cue(0, 1, 4);
        x.cue(1, 2, 5);
        due("quarrel", 4, x.order(3, -1));
        due("rivals", 1, x.order(3, -2));
        due("first", 1, x.order(3, 0));
        due("second", 2, x.order(3, 1));
        due("third", 0, x.order(3, 2));
        due("below 2 alone", 0, x.order(2, 0));
        x.cue(5, 3, 100);
        due("5 is not below 5", 4, x.order(5, -1));
        due("first of 6", 1, x.order(6, 0));
        due("last of 6", 3, x.order(6, 5));
        x.cue(3, 5, 100);
        due("one of two", 104, x.order(6, -1));
        due("the lower ones first", 3, x.order(6, 3));
    }

    private static void promise20Undo() {
        FilmWhole x = film(reel(f(1, 0, 0)), reel(f(1, 1, 0), f(2, 2, 0), f(3, 3, 0)));
        due("none", NO, x.undo());
        x.wear(1, 2, 9);
        x.wear(0, 0, 8);
        x.wear(1, 2, 7);
        due("the latest", 102, x.undo());
        due("back", 9, x.at(1, 2, 1));
        due("then", 0, x.undo());
        due("back", 0, x.at(0, 0, 1));
        due("then", 102, x.undo());
        due("back", 3, x.at(1, 2, 1));
        due("none is left", NO, x.undo());
        for (int k = 0; k < 31; k++) {
            x.wear(1, 1, k % 10);
        }
        due("30 are kept", 30, x.count(4));
        for (int k = 0; k < 30; k++) {
            due("undo", 101, x.undo());
        }
        due("the first of 31 is not undone", 0, x.at(1, 1, 1));
        due("none is left", NO, x.undo());
        due("steps", 0, x.count(4));
        for (int k = 0; k < 35; k++) {
            x.wear(k % 4 == 0 ? 0 : 1, k % 4 == 0 ? 0 : k % 4 - 1, k % 10);
        }
        for (int k = 34; k >= 5; k--) {
            due("the latest 30, each its own", k % 4 == 0 ? 0 : 100 + k % 4 - 1, x.undo());
        }
        due("none is left", NO, x.undo());
    }

    private static void promise21Count() {
        FilmWhole x = film(reel(f(1, 0, 0)), reel());
        script(x, 0, 1, 2, 3);
        x.note(0, 0, 0, 1);
        for (int k = 0; k < 4; k++) {
            x.cue(0, 1, 1);
        }
        for (int k = 0; k < 5; k++) {
            x.wear(0, 0, k);
        }
        int[] want = {2, 3, 1, 4, 5};
        for (int what = 0; what <= 4; what++) {
            due("count(" + what + ")", want[what], x.count(what));
        }
        for (int what : new int[] {LOW, -1, 5, HIGH}) {
            due("count " + what, BAD, x.count(what));
        }
    }
}
