/** Each sentence under 'Promise 1' to 'Promise 21' that names a boundary: a test of its own, in the document's order. */
public final class EdgePromisesTest extends Films {
    private static final int[] FAR = {LOW, LOW + 1, -65536, 65536, HIGH - 1, HIGH};

    private EdgePromisesTest() {
    }

    public static void main(String[] args) {
        newWithoutCopies();
        newWithoutScript();
        newWithoutTheRest();
        copyWithoutFrames();
        copyFull();
        frameBehind();
        frameBadCopy();
        frameFull();
        framesOneToFour();
        framesHighestFirst();
        framesLowestAreZero();
        framesBad();
        framesFull();
        atFrame();
        atWhat();
        wearWas();
        wearBad();
        placeHowMany();
        placeFull();
        noScriptEmpty();
        noScriptHad();
        ruleWas();
        ruleBad();
        lineOfScript();
        lineCostOrMember();
        lineBad();
        standsNone();
        standsBad();
        wholePrice();
        wholeBad();
        aboutNothing();
        aboutLost();
        aboutAnotherCopy();
        aboutAnotherCamera();
        aboutBad();
        mendBad();
        noteHowMany();
        noteBad();
        noteFull();
        tintBad();
        cueBad();
        cueFull();
        noCuesHad();
        orderMember();
        orderBad();
        undoNumber();
        undoNo();
        countAll();
        countBad();
        CHECK.end();
    }

    private static void newWithoutCopies() {
        says("No COPIES, no SCRIPT.");
        FilmWhole x = new FilmWhole();
        due("count(0)", 0, x.count(0));
        for (int c = -1; c <= 6; c++) {
            due("frame(" + c + ", ..)", BAD, x.frame(c, 0, 0, 0));
            due("frames(" + c + ", ..)", BAD, x.frames(c, 1, 0));
            due("at(" + c + ", ..)", BAD, x.at(c, 0, 0));
            due("wear(" + c + ", ..)", BAD, x.wear(c, 0, 0));
            due("stands(" + c + ", 0)", BAD, x.stands(c, 0));
            due("note(" + c + ", ..)", BAD, x.note(c, 0, 0, 1));
            due("line(" + c + ", -1, -1)", c == -1 ? 0 : BAD, x.line(c, -1, -1));
            due("line(-1, " + c + ", -1)", c == -1 ? 0 : BAD, x.line(-1, c, -1));
        }
        due("the first COPY", 0, x.copy());
    }

    private static void newWithoutScript() {
        says("No COPIES, no SCRIPT.");
        FilmWhole x = new FilmWhole();
        due("count(1)", 0, x.count(1));
        due("whole(-1)", 0, x.whole(-1));
        due("whole(0)", BAD, x.whole(0));
        due("line(-1, -1, 0)", BAD, x.line(-1, -1, 0));
        due("mend(0)", BAD, x.mend(0));
        due("tint(0)", BAD, x.tint(0));
        due("noScript()", 0, x.noScript());
        due("the first PLACE", 1, x.place(0, 0));
    }

    private static void newWithoutTheRest() {
        says("No COPIES, no SCRIPT.");
        FilmWhole x = new FilmWhole();
        due("notes", 0, x.count(2));
        due("CUES", 0, x.count(3));
        due("STEPS", 0, x.count(4));
        due("noCues()", 0, x.noCues());
        due("undo()", NO, x.undo());
        due("NEAR", 0, x.rule(0, 0));
        due("LOST", 20, x.rule(1, 20));
        due("CHANGE", 4, x.rule(2, 4));
        due("MIX", 30, x.rule(3, 30));
        FilmWhole other = new FilmWhole();
        other.copy();
        other.frame(0, 1, 1, 1);
        other.place(1, 1);
        other.rule(0, 5);
        other.cue(0, 1, 1);
        other.wear(0, 0, 2);
        other.note(0, 0, 0, 1);
        for (int what = 0; what <= 4; what++) {
            due("another object's are not its: count(" + what + ")", 0, x.count(what));
        }
        due("another object's NEAR is not its", 0, x.rule(0, 0));
    }

    private static void copyWithoutFrames() {
        says("A COPY without FRAMES: its number.");
        FilmWhole x = new FilmWhole();
        for (int c = 0; c <= 5; c++) {
            due("copy()", c, x.copy());
            due("at(" + c + ", 0, 0)", BAD, x.at(c, 0, 0));
            due("line with itself", 0, x.line(c, c, -1));
            due("its first FRAME", 1, x.frame(c, 0, 0, 0));
        }
    }

    private static void copyFull() {
        says("its number. FULL.");
        FilmWhole x = new FilmWhole();
        for (int c = 0; c <= 5; c++) {
            x.copy();
        }
        due("a seventh", FULL, x.copy());
        due("an eighth", FULL, x.copy());
        due("count(0)", 6, x.count(0));
        due("no COPY 6", BAD, x.frame(6, 0, 0, 0));
        due("COPY 5 is as it was", 1, x.frame(5, 0, 0, 0));
    }

    private static void frameBehind() {
        says("A FRAME behind those of a COPY: how many it has.");
        FilmWhole x = filmOf(0);
        x.copy();
        for (int n = 1; n <= 40; n++) {
            due("frame " + n, n, x.frame(1, 64 - n, n % 10, n % 2));
            due("its MARK", 64 - n, x.at(1, n - 1, 0));
            due("its WEAR", n % 10, x.at(1, n - 1, 1));
            due("its CAMERA", n % 2, x.at(1, n - 1, 2));
            due("none behind it", BAD, x.at(1, n, 0));
        }
        due("none in the other COPY", BAD, x.at(0, 0, 0));
    }

    private static void frameBadCopy() {
        says("how many it has. BAD");
        FilmWhole x = filmOf(0);
        due("copy -1", BAD, x.frame(-1, 0, 0, 0));
        due("copy 1", BAD, x.frame(1, 0, 0, 0));
        for (int far : FAR) {
            due("copy " + far, BAD, x.frame(far, 0, 0, 0));
            due("mark " + far, BAD, x.frame(0, far, 0, 0));
            due("wear " + far, BAD, x.frame(0, 0, far, 0));
            due("camera " + far, BAD, x.frame(0, 0, 0, far));
            due("all " + far, BAD, x.frame(far, far, far, far));
        }
        due("none was put", 1, x.frame(0, 0, 0, 0));
    }

    private static void frameFull() {
        says("how many it has. BAD; FULL.");
        FilmWhole x = filmOf(40);
        due("a 41st", FULL, x.frame(0, 63, 9, 1));
        due("a 41st that is BAD", BAD, x.frame(0, 64, 9, 1));
        due("a 41st that is BAD", BAD, x.frame(0, 63, 10, 1));
        due("a 41st that is BAD", BAD, x.frame(0, 63, 9, 2));
        due("no such COPY", BAD, x.frame(1, 63, 9, 1));
        due("the last is as it was", 39, x.at(0, 39, 0));
        due("the first is as it was", 0, x.at(0, 0, 0));
    }

    private static void framesOneToFour() {
        says("n FRAMES (1 to 4) so");
        long told = bits(1, 1, 0) << 48 | bits(2, 2, 1) << 32 | bits(3, 3, 0) << 16 | bits(4, 4, 1);
        for (int n = 1; n <= 4; n++) {
            FilmWhole x = filmOf(2);
            due("frames(0, " + n + ", ..)", 2 + n, x.frames(0, n, told));
            for (int k = 0; k < n; k++) {
                int of = 5 - n + k;
                due("MARK " + k + " of " + n, of, x.at(0, 2 + k, 0));
                due("WEAR " + k + " of " + n, of, x.at(0, 2 + k, 1));
                due("CAMERA " + k + " of " + n, (of + 1) % 2, x.at(0, 2 + k, 2));
            }
            due("none behind them", BAD, x.at(0, 2 + n, 0));
        }
        for (int n = 1; n <= 3; n++) {
            due("what is above those of " + n, n, filmOf(0).frames(0, n, -1L << 16 * n));
        }
        FilmWhole x = filmOf(0);
        due("n 0", BAD, x.frames(0, 0, 0));
        due("n 5", BAD, x.frames(0, 5, 0));
        due("n -1", BAD, x.frames(0, -1, 0));
        for (int far : FAR) {
            due("n " + far, BAD, x.frames(0, far, 0));
        }
        due("none was put", BAD, x.at(0, 0, 0));
    }

    private static void framesHighestFirst() {
        says("told by 16 bits each, the highest first: 6 MARK, 4 WEAR, 1 CAMERA");
        for (int k = 0; k < 4; k++) {
            int shift = 48 - 16 * k;
            for (int bit = 5; bit < 16; bit++) {
                FilmWhole x = filmOf(0);
                due("bit " + (shift + bit), 4, x.frames(0, 4, 1L << shift + bit));
                for (int i = 0; i < 4; i++) {
                    int one = i == k ? 1 << bit : 0;
                    due("bit " + (shift + bit) + ": MARK " + i, one >> 10, x.at(0, i, 0));
                    due("bit " + (shift + bit) + ": WEAR " + i, one >> 6 & 15, x.at(0, i, 1));
                    due("bit " + (shift + bit) + ": CAMERA " + i, one >> 5 & 1, x.at(0, i, 2));
                }
            }
        }
        FilmWhole most = filmOf(0);
        long highest = bits(63, 9, 1);
        due("all highest", 4, most.frames(0, 4, highest << 48 | highest << 32 | highest << 16 | highest));
        for (int i = 0; i < 4; i++) {
            due("MARK " + i, 63, most.at(0, i, 0));
            due("WEAR " + i, 9, most.at(0, i, 1));
            due("CAMERA " + i, 1, most.at(0, i, 2));
        }
    }

    private static void framesLowestAreZero() {
        says("the lowest 5 are 0");
        FilmWhole x = filmOf(0);
        for (int n = 1; n <= 4; n++) {
            for (int k = 0; k < n; k++) {
                for (int bit = 0; bit < 5; bit++) {
                    due("bit " + bit + " of FRAME " + k + " of " + n, BAD, x.frames(0, n, 1L << 16 * (n - 1 - k) + bit));
                }
            }
        }
        due("none was put", BAD, x.at(0, 0, 0));
        for (int bit = 0; bit < 5; bit++) {
            due("bit " + bit + " above those of one FRAME is none of it", bit + 1, x.frames(0, 1, 1L << 16 + bit));
        }
    }

    private static void framesBad() {
        says("the lowest 5 are 0. BAD");
        FilmWhole x = filmOf(0);
        due("copy -1", BAD, x.frames(-1, 1, 0));
        due("copy 1", BAD, x.frames(1, 1, 0));
        for (int far : FAR) {
            due("copy " + far, BAD, x.frames(far, 1, 0));
        }
        for (int n = 1; n <= 4; n++) {
            for (int k = 0; k < n; k++) {
                due("WEAR 10 of FRAME " + k + " of " + n, BAD, x.frames(0, n, bits(0, 10, 0) << 16 * (n - 1 - k)));
                due("WEAR 15 of FRAME " + k + " of " + n, BAD, x.frames(0, n, bits(0, 15, 0) << 16 * (n - 1 - k)));
            }
            due("all bits, n " + n, BAD, x.frames(0, n, -1L));
        }
        due("none was put", BAD, x.at(0, 0, 0));
        due("a number below 0 is not BAD", 4, x.frames(0, 4, Long.MIN_VALUE));
        due("its MARK", 32, x.at(0, 0, 0));
    }

    private static void framesFull() {
        says("BAD; FULL (none is put).");
        for (int n = 1; n <= 4; n++) {
            for (int had = 41 - n; had <= 40; had++) {
                FilmWhole x = filmOf(had);
                due(n + " behind " + had, FULL, x.frames(0, n, 0));
                due("none is put: at(0, " + had + ", 0)", BAD, x.at(0, had, 0));
                due("its last is as it was", had - 1, x.at(0, had - 1, 0));
                due("BAD bits go before FULL", BAD, x.frames(0, n, 1));
                due("a BAD WEAR goes before FULL", BAD, x.frames(0, n, bits(0, 10, 0)));
                if (had < 40) {
                    due("as many as there is room for", 40, x.frames(0, 40 - had, 0));
                }
            }
        }
    }

    private static void atFrame() {
        says("FRAME i of a COPY");
        FilmWhole x = filmOf(40);
        x.copy();
        due("at(0, 0, 0)", 0, x.at(0, 0, 0));
        due("at(0, 39, 0)", 39, x.at(0, 39, 0));
        due("at(0, 40, 0)", BAD, x.at(0, 40, 0));
        due("at(0, -1, 0)", BAD, x.at(0, -1, 0));
        due("at(1, 0, 0), a COPY without FRAMES", BAD, x.at(1, 0, 0));
        due("at(2, 0, 0)", BAD, x.at(2, 0, 0));
        due("at(-1, 0, 0)", BAD, x.at(-1, 0, 0));
        for (int far : FAR) {
            due("at(" + far + ", 0, 0)", BAD, x.at(far, 0, 0));
            due("at(0, " + far + ", 0)", BAD, x.at(0, far, 0));
        }
    }

    private static void atWhat() {
        says("its MARK (what = 0), WEAR (1), CAMERA (2). BAD.");
        FilmWhole x = film(reel(f(63, 9, 1)));
        due("at(0, 0, 0)", 63, x.at(0, 0, 0));
        due("at(0, 0, 1)", 9, x.at(0, 0, 1));
        due("at(0, 0, 2)", 1, x.at(0, 0, 2));
        due("at(0, 0, 3)", BAD, x.at(0, 0, 3));
        due("at(0, 0, -1)", BAD, x.at(0, 0, -1));
        for (int far : FAR) {
            due("at(0, 0, " + far + ")", BAD, x.at(0, 0, far));
        }
    }

    private static void wearWas() {
        says("WEAR of a FRAME becomes v (a STEP): what it was.");
        FilmWhole x = film(reel(f(1, 4, 0), f(2, 5, 0)));
        due("wear(0, 0, 0)", 4, x.wear(0, 0, 0));
        due("wear(0, 0, 9)", 0, x.wear(0, 0, 9));
        due("wear(0, 0, 9) again", 9, x.wear(0, 0, 9));
        due("WEAR", 9, x.at(0, 0, 1));
        due("the other's", 5, x.at(0, 1, 1));
        due("its MARK stays", 1, x.at(0, 0, 0));
        due("STEPS", 3, x.count(4));
    }

    private static void wearBad() {
        says("what it was. BAD.");
        FilmWhole x = filmOf(40);
        x.copy();
        due("the last FRAME", 0, x.wear(0, 39, 1));
        due("behind it", BAD, x.wear(0, 40, 1));
        due("ahead of the first", BAD, x.wear(0, -1, 1));
        due("a COPY without FRAMES", BAD, x.wear(1, 0, 1));
        due("no such COPY", BAD, x.wear(2, 0, 1));
        due("no such COPY", BAD, x.wear(-1, 0, 1));
        due("v -1", BAD, x.wear(0, 0, -1));
        due("v 10", BAD, x.wear(0, 0, 10));
        for (int far : FAR) {
            due("copy " + far, BAD, x.wear(far, 0, 1));
            due("i " + far, BAD, x.wear(0, far, 1));
            due("v " + far, BAD, x.wear(0, 0, far));
        }
        due("no STEP of these", 1, x.count(4));
        due("WEAR is as it was", 0, x.at(0, 0, 1));
    }

    private static void placeHowMany() {
        says("A PLACE behind those of THE SCRIPT: how many. BAD");
        FilmWhole x = filmOf(40);
        for (int n = 1; n <= 40; n++) {
            due("place " + n, n, x.place(n - 1, n % 6));
            due("its pair", n - 1, x.line(-1, 0, n - 1));
        }
        FilmWhole none = new FilmWhole();
        for (int far : FAR) {
            due("mark " + far, BAD, none.place(far, 0));
            due("shot " + far, BAD, none.place(0, far));
        }
        due("none was put", 0, none.count(1));
    }

    private static void placeFull() {
        says("how many. BAD; FULL.");
        FilmWhole x = new FilmWhole();
        for (int n = 1; n <= 40; n++) {
            x.place(0, 0);
        }
        due("a 41st", FULL, x.place(63, 5));
        due("a 41st that is BAD", BAD, x.place(64, 5));
        due("a 41st that is BAD", BAD, x.place(63, 6));
        due("a 41st that is BAD", BAD, x.place(-1, -1));
        due("count(1)", 40, x.count(1));
    }

    private static void noScriptEmpty() {
        says("THE SCRIPT is empty");
        FilmWhole x = worn(0, 9, 0);
        x.note(0, 0, 2, 3);
        x.cue(1, 0, 1);
        x.mend(1);
        x.rule(0, 2);
        x.rule(1, 50);
        x.noScript();
        due("count(1)", 0, x.count(1));
        due("whole(-1)", 0, x.whole(-1));
        due("whole(0)", BAD, x.whole(0));
        due("stands(0, 0)", BAD, x.stands(0, 0));
        due("mend(1)", BAD, x.mend(1));
        due("tint(0)", BAD, x.tint(0));
        due("line(-1, 0, -1)", 9, x.line(-1, 0, -1));
        due("line(-1, 0, 0)", BAD, x.line(-1, 0, 0));
        due("about(0)", 0, x.about(0));
        due("COPIES stay", 1, x.count(0));
        due("notes stay", 1, x.count(2));
        due("CUES stay", 1, x.count(3));
        due("STEPS stay", 1, x.count(4));
        due("NEAR stays", 2, x.rule(0, 0));
        due("LOST stays", 50, x.rule(1, 20));
        due("undo() all the same", 1, x.undo());
        due("WEAR", 9, x.at(0, 1, 1));
        due("a first PLACE again", 1, x.place(1, 5));
        due("of the COPY", 0, x.whole(0));
        due("its TINT", 3, x.tint(0));
        due("none behind it", BAD, x.whole(1));
    }

    private static void noScriptHad() {
        says("how many PLACES it had");
        FilmWhole x = new FilmWhole();
        due("none", 0, x.noScript());
        x.place(0, 0);
        due("one", 1, x.noScript());
        due("none again", 0, x.noScript());
        for (int n = 0; n < 41; n++) {
            x.place(0, 0);
        }
        due("40", 40, x.noScript());
        due("none again", 0, x.noScript());
    }

    private static void ruleWas() {
        says("What = 0 NEAR, 1 LOST, 2 CHANGE, 3 MIX becomes v: what it was.");
        FilmWhole x = new FilmWhole();
        int[] first = {0, 20, 4, 30};
        int[] top = {5, 100, 100, 100};
        for (int what = 0; what <= 3; what++) {
            due("rule " + what + " at first", first[what], x.rule(what, top[what]));
        }
        for (int what = 0; what <= 3; what++) {
            due("rule " + what + " highest", top[what], x.rule(what, 0));
        }
        for (int what = 0; what <= 3; what++) {
            due("rule " + what + " lowest", 0, x.rule(what, what + 1));
        }
        for (int what = 0; what <= 3; what++) {
            due("rule " + what + " is its own", what + 1, x.rule(what, 0));
        }
        due("no STEPS", 0, x.count(4));
    }

    private static void ruleBad() {
        says("becomes v: what it was. BAD.");
        FilmWhole x = new FilmWhole();
        due("what -1", BAD, x.rule(-1, 0));
        due("what 4", BAD, x.rule(4, 0));
        for (int what = 0; what <= 3; what++) {
            due("rule(" + what + ", -1)", BAD, x.rule(what, -1));
            due("above the highest", BAD, x.rule(what, what == 0 ? 6 : 101));
        }
        for (int far : FAR) {
            due("what " + far, BAD, x.rule(far, 0));
            for (int what = 0; what <= 3; what++) {
                due("rule(" + what + ", " + far + ")", BAD, x.rule(what, far));
            }
        }
        int[] first = {0, 20, 4, 30};
        for (int what = 0; what <= 3; what++) {
            due("rule " + what + " is as it was", first[what], x.rule(what, 0));
        }
    }

    private static void lineOfScript() {
        says("LINING UP of two COPIES (-1: THE SCRIPT)");
        FilmWhole x = marked(row(10, 20), row(20));
        script(x, 0, 20, 30);
        dueLine(x, -1, 0, 6, 1, NONE);
        dueLine(x, 0, -1, 6, NONE, 0);
        dueLine(x, -1, 1, 3, 0, NONE);
        dueLine(x, -1, -1, 0, 0, 1);
        dueLine(x, 0, 0, 0, 0, 1);
        dueLine(x, 1, 0, 3, 1);
    }

    private static void lineCostOrMember() {
        says("COST (i = -1); else the member of the second row that is paired with i of the first (NONE)");
        FilmWhole x = filmOf(40);
        x.copy();
        due("COST", 120, x.line(0, 1, -1));
        due("first", NONE, x.line(0, 1, 0));
        due("last", NONE, x.line(0, 1, 39));
        due("first with itself", 0, x.line(0, 0, 0));
        due("last with itself", 39, x.line(0, 0, 39));
        x.frame(1, 39, 0, 0);
        due("COST", 117, x.line(0, 1, -1));
        due("last", 0, x.line(0, 1, 39));
        due("last but one", NONE, x.line(0, 1, 38));
        due("the other way", 39, x.line(1, 0, 0));
    }

    private static void lineBad() {
        says("with i of the first (NONE). BAD.");
        FilmWhole x = filmOf(40);
        x.copy();
        x.frame(1, 0, 0, 0);
        due("line(0, 1, 40)", BAD, x.line(0, 1, 40));
        due("line(0, 1, -2)", BAD, x.line(0, 1, -2));
        due("line(1, 0, 1): i is of the first", BAD, x.line(1, 0, 1));
        due("line(-1, 0, 0): no PLACES", BAD, x.line(-1, 0, 0));
        for (int none : new int[] {-2, 2, 5, 6}) {
            due("line(" + none + ", 0, -1)", BAD, x.line(none, 0, -1));
            due("line(0, " + none + ", -1)", BAD, x.line(0, none, -1));
        }
        for (int far : FAR) {
            due("line(" + far + ", 0, -1)", BAD, x.line(far, 0, -1));
            due("line(0, " + far + ", -1)", BAD, x.line(0, far, -1));
            due("line(0, 1, " + far + ")", BAD, x.line(0, 1, far));
            due("line(" + far + ", " + far + ", " + far + ")", BAD, x.line(far, far, far));
        }
    }

    private static void standsNone() {
        says("The FRAME of a COPY that STANDS for a PLACE. NONE");
        FilmWhole x = filmOf(40);
        x.copy();
        for (int p = 0; p < 40; p++) {
            x.place(p, p % 6);
        }
        due("the first", 0, x.stands(0, 0));
        due("the last", 39, x.stands(0, 39));
        due("a COPY without FRAMES", NONE, x.stands(1, 0));
        due("a COPY without FRAMES, the last", NONE, x.stands(1, 39));
        x.frame(1, 38, 0, 0);
        due("one FRAME", 0, x.stands(1, 38));
        due("one FRAME, the last", NONE, x.stands(1, 39));
    }

    private static void standsBad() {
        says("STANDS for a PLACE. NONE; BAD.");
        FilmWhole x = filmOf(3);
        due("no PLACES", BAD, x.stands(0, 0));
        script(x, 0, 0, 1);
        due("the last", 1, x.stands(0, 1));
        due("behind it, where there is a FRAME", BAD, x.stands(0, 2));
        due("place -1", BAD, x.stands(0, -1));
        due("copy 1", BAD, x.stands(1, 0));
        due("copy -1: THE SCRIPT is no COPY", BAD, x.stands(-1, 0));
        due("copy 6", BAD, x.stands(6, 0));
        for (int far : FAR) {
            due("copy " + far, BAD, x.stands(far, 0));
            due("place " + far, BAD, x.stands(0, far));
        }
    }

    private static void wholePrice() {
        says("PRICE (i = -1); else the COPY for PLACE i (NONE: LOST)");
        FilmWhole x = filmOf(40);
        due("no PLACES", 0, x.whole(-1));
        for (int p = 0; p < 40; p++) {
            x.place(p < 39 ? p : 63, 0);
        }
        due("PRICE", 20, x.whole(-1));
        due("the first", 0, x.whole(0));
        due("the last but one", 0, x.whole(38));
        due("the last", NONE, x.whole(39));
    }

    private static void wholeBad() {
        says("(NONE: LOST). BAD.");
        FilmWhole x = filmOf(40);
        due("no PLACES", BAD, x.whole(0));
        x.place(0, 0);
        due("one PLACE", 0, x.whole(0));
        due("behind it", BAD, x.whole(1));
        due("-2", BAD, x.whole(-2));
        for (int far : FAR) {
            due("whole(" + far + ")", BAD, x.whole(far));
        }
        for (int p = 1; p < 40; p++) {
            x.place(p, 0);
        }
        due("the 40th", 0, x.whole(39));
        due("behind it", BAD, x.whole(40));
    }

    private static void aboutNothing() {
        says("How many PLACES are LOST (what = 0)");
        FilmWhole x = new FilmWhole();
        due("no PLACES", 0, x.about(0));
        due("no PLACES", 0, x.about(1));
        due("no PLACES", 0, x.about(2));
        x.place(0, 0);
        due("one PLACE without COPIES", 1, x.about(0));
        due("one PLACE without COPIES", 0, x.about(1));
        due("one PLACE without COPIES", 0, x.about(2));
    }

    private static void aboutLost() {
        says("PLACES are LOST (what = 0)");
        FilmWhole x = filmOf(40);
        for (int p = 0; p < 40; p++) {
            x.place(p, 0);
        }
        due("none", 0, x.about(0));
        x.rule(1, 0);
        due("none, as a COPY is lower", 0, x.about(0));
        x.wear(0, 39, 1);
        due("the last", 1, x.about(0));
        x.wear(0, 0, 1);
        due("the first too", 2, x.about(0));
        FilmWhole all = new FilmWhole();
        for (int p = 0; p < 40; p++) {
            all.place(p, 0);
        }
        due("all", 40, all.about(0));
    }

    /** A SCRIPT whose PLACES come from COPY 0 and 1 by turns, with CAMERAS as told. */
    private static FilmWhole byTurns(int places, int camera, int otherCamera) {
        FilmWhole x = new FilmWhole();
        x.copy();
        x.copy();
        x.rule(2, 0);
        x.rule(3, 0);
        for (int p = 0; p < places; p++) {
            x.frame(p % 2, p, 0, p % 2 == 0 ? camera : otherCamera);
            x.place(p, 0);
        }
        return x;
    }

    private static void aboutAnotherCopy() {
        says("have a SOURCE of another COPY than that ahead in their SHOT (1)");
        due("one PLACE", 0, byTurns(1, 0, 0).about(1));
        due("two PLACES", 1, byTurns(2, 0, 0).about(1));
        due("40 PLACES", 39, byTurns(40, 0, 0).about(1));
        due("of one CAMERA", 0, byTurns(40, 0, 0).about(2));
        due("of one COPY", 0, worn(0, 0, 0).about(1));
        FilmWhole shots = film(reel(f(1, 0, 0), f(3, 0, 0)), reel(f(2, 0, 0)));
        shots.place(1, 0);
        shots.place(2, 1);
        shots.place(3, 0);
        due("SHOTS part them", 0, shots.about(1));
        FilmWhole gap = film(reel(f(1, 0, 0)), reel(f(3, 0, 0)));
        script(gap, 0, 1, 50, 3);
        due("that ahead is LOST", 0, gap.about(1));
    }

    private static void aboutAnotherCamera() {
        says("of another CAMERA (2)");
        due("one PLACE", 0, byTurns(1, 1, 0).about(2));
        due("two PLACES", 1, byTurns(2, 1, 0).about(2));
        due("40 PLACES", 39, byTurns(40, 0, 1).about(2));
        FilmWhole one = film(reel(f(1, 0, 0), f(2, 0, 1), f(3, 0, 1)));
        script(one, 0, 1, 2, 3);
        one.rule(3, 0);
        due("in one COPY", 1, one.about(2));
        due("in one COPY, no other COPY", 0, one.about(1));
        FilmWhole shots = film(reel(f(1, 0, 0), f(2, 0, 1)));
        shots.place(1, 0);
        shots.place(2, 1);
        due("SHOTS part them", 0, shots.about(2));
        FilmWhole gap = film(reel(f(1, 0, 0), f(3, 0, 1)));
        script(gap, 0, 1, 50, 3);
        due("that ahead is LOST", 0, gap.about(2));
    }

    private static void aboutBad() {
        says("in THE WHOLE. BAD.");
        FilmWhole x = worn(0, 0);
        due("about(-1)", BAD, x.about(-1));
        due("about(3)", BAD, x.about(3));
        for (int far : FAR) {
            due("about(" + far + ")", BAD, x.about(far));
            due("about(" + far + ") of a new one", BAD, new FilmWhole().about(far));
        }
    }

    private static void mendBad() {
        says("The FRAME at a PLACE is MENDED: its WEAR. BAD; NO: as told.");
        FilmWhole x = worn(0, 9, 0);
        due("mend(-1)", BAD, x.mend(-1));
        due("mend(3)", BAD, x.mend(3));
        for (int far : FAR) {
            due("mend(" + far + ")", BAD, x.mend(far));
        }
        due("mend(0)", NO, x.mend(0));
        due("mend(2)", NO, x.mend(2));
        due("no STEP of these", 0, x.count(4));
        due("mend(1)", 0, x.mend(1));
        due("mend(1) again", NO, x.mend(1));
        due("one STEP", 1, x.count(4));
        due("no PLACES", BAD, filmOf(3).mend(1));
    }

    private static void noteHowMany() {
        says("A note: how many.");
        FilmWhole x = filmOf(40);
        due("the first FRAME", 1, x.note(0, 0, 0, 1));
        due("the last FRAME", 2, x.note(0, 39, 39, 1));
        due("all FRAMES", 3, x.note(0, 0, 39, 9));
        due("the same again", 4, x.note(0, 0, 39, 9));
        due("count(2)", 4, x.count(2));
    }

    private static void noteBad() {
        says("BAD: also FRAMES that are not there");
        FilmWhole x = filmOf(3);
        x.copy();
        due("b behind the last", BAD, x.note(0, 0, 3, 1));
        due("a and b behind the last", BAD, x.note(0, 3, 3, 1));
        due("a ahead of the first", BAD, x.note(0, -1, 0, 1));
        due("a and b ahead of the first", BAD, x.note(0, -1, -1, 1));
        due("b ahead of a", BAD, x.note(0, 2, 1, 1));
        due("a COPY without FRAMES", BAD, x.note(1, 0, 0, 1));
        due("copy 2", BAD, x.note(2, 0, 0, 1));
        due("copy -1", BAD, x.note(-1, 0, 0, 1));
        due("tint 0", BAD, x.note(0, 0, 0, 0));
        due("tint 10", BAD, x.note(0, 0, 0, 10));
        for (int far : FAR) {
            due("copy " + far, BAD, x.note(far, 0, 0, 1));
            due("a " + far, BAD, x.note(0, far, 2, 1));
            due("b " + far, BAD, x.note(0, 0, far, 1));
            due("a and b " + far, BAD, x.note(0, far, far, 1));
            due("tint " + far, BAD, x.note(0, 0, 0, far));
        }
        due("none of these is one", 0, x.count(2));
        due("the last FRAME", 1, x.note(0, 2, 2, 1));
        x.frame(0, 3, 0, 0);
        due("now it is there", 2, x.note(0, 3, 3, 1));
    }

    private static void noteFull() {
        says("FRAMES that are not there; FULL.");
        FilmWhole x = worn(0);
        for (int n = 1; n <= 12; n++) {
            due("note " + n, n, x.note(0, 0, 0, 1));
        }
        due("a 13th", FULL, x.note(0, 0, 0, 2));
        due("a 13th that is BAD", BAD, x.note(0, 0, 1, 2));
        due("a 13th that is BAD", BAD, x.note(0, 0, 0, 10));
        due("a 13th that is BAD", BAD, x.note(1, 0, 0, 2));
        due("TINT is as it was", 1, x.tint(0));
        due("count(2)", 12, x.count(2));
    }

    private static void tintBad() {
        says("TINT of a PLACE. BAD.");
        FilmWhole x = filmOf(40);
        x.note(0, 0, 39, 9);
        due("no PLACES", BAD, x.tint(0));
        for (int p = 0; p < 40; p++) {
            x.place(p, 0);
        }
        due("the first", 9, x.tint(0));
        due("the last", 9, x.tint(39));
        due("tint(40)", BAD, x.tint(40));
        due("tint(-1)", BAD, x.tint(-1));
        for (int far : FAR) {
            due("tint(" + far + ")", BAD, x.tint(far));
        }
    }

    private static void cueBad() {
        says("A CUE: how many. BAD (a is b, too)");
        FilmWhole x = new FilmWhole();
        for (int s = 0; s <= 5; s++) {
            due("cue(" + s + ", " + s + ", 1)", BAD, x.cue(s, s, 1));
        }
        due("cue(-1, -1, 1)", BAD, x.cue(-1, -1, 1));
        due("cue(6, 6, 1)", BAD, x.cue(6, 6, 1));
        for (int far : FAR) {
            due("a " + far, BAD, x.cue(far, 0, 1));
            due("b " + far, BAD, x.cue(0, far, 1));
            due("weight " + far, BAD, x.cue(0, 1, far));
        }
        due("none of these is one", 0, x.count(3));
        int n = 0;
        for (int a = 0; a <= 5; a++) {
            n++;
            due("cue(" + a + ", ..)", n, x.cue(a, (a + 1) % 6, 100));
        }
        due("the same again", 7, x.cue(0, 1, 100));
    }

    private static void cueFull() {
        says("BAD (a is b, too); FULL.");
        FilmWhole x = new FilmWhole();
        for (int n = 1; n <= 20; n++) {
            due("cue " + n, n, x.cue(1, 0, 1));
        }
        due("a 21st", FULL, x.cue(0, 1, 100));
        due("a 21st that is BAD", BAD, x.cue(0, 0, 100));
        due("a 21st that is BAD", BAD, x.cue(0, 6, 100));
        due("a 21st that is BAD", BAD, x.cue(0, 1, 101));
        due("count(3)", 20, x.count(3));
        due("THE ORDER is as it was", 10, ordered(x, 2));
        due("QUARREL", 0, x.order(2, -1));
    }

    private static void noCuesHad() {
        says("All CUES go: how many there were.");
        FilmWhole x = new FilmWhole();
        due("none", 0, x.noCues());
        x.cue(1, 0, 1);
        due("one", 1, x.noCues());
        due("none again", 0, x.noCues());
        for (int n = 0; n < 21; n++) {
            x.cue(5 - n % 5, 4 - n % 5, 100);
        }
        due("20", 20, x.noCues());
        due("count(3)", 0, x.count(3));
        for (int n = 2; n <= 6; n++) {
            due("QUARREL of " + n, 0, x.order(n, -1));
        }
        due("RIVALS", 720, x.order(6, -2));
        due("order", 12345, ordered(x, 6));
        due("a first one again", 1, x.cue(0, 1, 1));
        FilmWhole rest = worn(0, 1);
        rest.cue(0, 1, 1);
        rest.note(0, 0, 0, 1);
        rest.wear(0, 0, 1);
        rest.noCues();
        due("PLACES stay", 2, rest.count(1));
        due("notes stay", 1, rest.count(2));
        due("STEPS stay", 1, rest.count(4));
    }

    private static void orderMember() {
        says("QUARREL (i = -1), RIVALS (-2), else the i-th SHOT (NONE)");
        FilmWhole x = new FilmWhole();
        x.cue(1, 0, 3);
        for (int n = 2; n <= 6; n++) {
            due("QUARREL", 0, x.order(n, -1));
            due("the first", 1, x.order(n, 0));
            due("the second", 0, x.order(n, 1));
            due("the last", n == 2 ? 0 : n - 1, x.order(n, n - 1));
            due("behind the last", NONE, x.order(n, n));
            due("the one behind that", NONE, x.order(n, n + 1));
            due("far behind", NONE, x.order(n, 65536));
            due("as far behind as can be", NONE, x.order(n, HIGH));
        }
    }

    private static void orderBad() {
        says("BAD: also i below -2.");
        FilmWhole x = new FilmWhole();
        for (int n = 2; n <= 6; n++) {
            due("order(" + n + ", -3)", BAD, x.order(n, -3));
            due("order(" + n + ", -65536)", BAD, x.order(n, -65536));
            due("order(" + n + ", the least)", BAD, x.order(n, LOW));
        }
        for (int far : FAR) {
            for (int i = -3; i <= 6; i++) {
                due("order(" + far + ", " + i + ")", BAD, x.order(far, i));
            }
            due("order(" + far + ", " + far + ")", BAD, x.order(far, far));
        }
        due("BAD goes before NONE: order(1, 1)", BAD, x.order(1, 1));
        due("BAD goes before NONE: order(7, 7)", BAD, x.order(7, 7));
        due("BAD goes before NONE: order(0, 0)", BAD, x.order(0, 0));
    }

    private static void undoNumber() {
        says("The latest STEP is undone: the COPY times 100 and the FRAME.");
        FilmWhole x = new FilmWhole();
        for (int c = 0; c <= 5; c++) {
            x.copy();
            x.frame(c, 0, 1, 0);
        }
        for (int i = 1; i < 40; i++) {
            x.frame(0, 0, 1, 0);
            x.frame(5, 0, 1, 0);
        }
        int[][] steps = {{0, 0}, {0, 39}, {1, 0}, {5, 0}, {5, 39}};
        for (int[] s : steps) {
            x.wear(s[0], s[1], 9);
        }
        for (int k = steps.length - 1; k >= 0; k--) {
            due("undo()", steps[k][0] * 100 + steps[k][1], x.undo());
            due("WEAR", 1, x.at(steps[k][0], steps[k][1], 1));
            due("STEPS", k, x.count(4));
        }
    }

    private static void undoNo() {
        says("NO: there is none.");
        FilmWhole x = new FilmWhole();
        due("a new object", NO, x.undo());
        x.copy();
        x.frame(0, 0, 0, 0);
        x.place(0, 0);
        x.note(0, 0, 0, 1);
        x.cue(0, 1, 1);
        x.rule(0, 1);
        due("none of these is a STEP", NO, x.undo());
        x.wear(0, 0, 10);
        x.mend(0);
        due("a refused one is no STEP", NO, x.undo());
        x.wear(0, 0, 5);
        due("a STEP", 0, x.undo());
        due("no more", NO, x.undo());
        due("no more again", NO, x.undo());
        due("WEAR is as it was", 0, x.at(0, 0, 1));
        due("STEPS", 0, x.count(4));
    }

    private static void countAll() {
        says("How many: 0 COPIES, 1 PLACES, 2 notes, 3 CUES, 4 STEPS kept.");
        FilmWhole x = new FilmWhole();
        int[] most = {6, 40, 12, 20, 30};
        for (int what = 0; what <= 4; what++) {
            due("none: count(" + what + ")", 0, x.count(what));
        }
        x.copy();
        x.frame(0, 0, 0, 0);
        for (int n = 0; n <= 40; n++) {
            x.copy();
            x.place(0, 0);
            x.note(0, 0, 0, 1);
            x.cue(0, 1, 1);
            x.wear(0, 0, n % 10);
        }
        for (int what = 0; what <= 4; what++) {
            due("all: count(" + what + ")", most[what], x.count(what));
        }
    }

    private static void countBad() {
        says("4 STEPS kept. BAD.");
        FilmWhole x = worn(0);
        due("count(-1)", BAD, x.count(-1));
        due("count(5)", BAD, x.count(5));
        for (int far : FAR) {
            due("count(" + far + ")", BAD, x.count(far));
        }
    }
}
