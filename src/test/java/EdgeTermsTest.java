/** Each sentence under 'What it is' and 'Terms' that names a boundary: a test of its own, in the document's order. */
public final class EdgeTermsTest extends Films {
    private EdgeTermsTest() {
    }

    public static void main(String[] args) {
        copiesAsTheyCome();
        framesAtMost();
        marks();
        wears();
        cameras();
        callsAtMost();
        placesAtMost();
        shots();
        pairsDoNotCross();
        oneAtMost();
        pairCost();
        unpairedCost();
        leastCost();
        firstOnesPair();
        elseSecondIsLeft();
        elseFirstIsLeft();
        standsScriptFirst();
        standsNear();
        nearAtFirst();
        standsOrLost();
        priceOfWear();
        priceOfLost();
        priceOfChange();
        priceOfMix();
        sideBySide();
        ofOneShot();
        neitherLost();
        leastPrice();
        lowerCopyFirst();
        lostIsAboveAll();
        mendedBesideTwoPlaces();
        mendedOfTheSameShot();
        mendedNotBesideLost();
        mendedFromTheSameCopy();
        mendedWithLessWear();
        mendedIsTheGreater();
        mendedIsAStep();
        tintsOneToNine();
        tintBothWith();
        notesAtMost();
        latestNote();
        tintOfSource();
        tintOfLeastWorn();
        tintOfLowest();
        tintElseNone();
        cuesAtMost();
        weights();
        shotsOfOrder();
        cuesBelow();
        cuesTheOtherWay();
        lowerShotsFirst();
        rivals();
        stepsKept();
        latestStepBack();
        CHECK.end();
    }

    private static void copiesAsTheyCome() {
        says("COPIES 0 to 5 as they come");
        FilmWhole x = new FilmWhole();
        for (int c = 0; c <= 5; c++) {
            due("frame of a COPY that has not come", BAD, x.frame(c, 0, 0, 0));
            due("line of a COPY that has not come", BAD, x.line(c, -1, -1));
            due("copy()", c, x.copy());
            due("frame of the COPY that came", 1, x.frame(c, 10 * c, c, 0));
        }
        due("copy() with six", FULL, x.copy());
        due("frame(6, ..)", BAD, x.frame(6, 0, 0, 0));
        due("frame(-1, ..)", BAD, x.frame(-1, 0, 0, 0));
        for (int c = 0; c <= 5; c++) {
            due("each has its own FRAMES: at(" + c + ", 0, 0)", 10 * c, x.at(c, 0, 0));
            due("each has one: at(" + c + ", 1, 0)", BAD, x.at(c, 1, 0));
        }
    }

    private static void framesAtMost() {
        says("FRAMES, 40 at most");
        FilmWhole x = filmOf(39);
        x.copy();
        due("the 40th", 40, x.frame(0, 5, 5, 1));
        due("a 41st", FULL, x.frame(0, 5, 5, 1));
        due("a 41st again", FULL, x.frame(0, 5, 5, 1));
        due("at(0, 39, 1)", 5, x.at(0, 39, 1));
        due("at(0, 40, 1)", BAD, x.at(0, 40, 1));
        due("another COPY is not full", 1, x.frame(1, 0, 0, 0));
        for (int n = 1; n <= 4; n++) {
            due("40 with the last " + n, 40, filmOf(40 - n).frames(0, n, 0));
            due("41 with the last " + n, FULL, filmOf(41 - n).frames(0, n, 0));
            due("40 already, " + n + " more", FULL, filmOf(40).frames(0, n, 0));
        }
    }

    private static void marks() {
        says("a MARK (0 to 63)");
        FilmWhole x = filmOf(0);
        due("frame MARK -1", BAD, x.frame(0, -1, 0, 0));
        due("frame MARK 0", 1, x.frame(0, 0, 0, 0));
        due("frame MARK 63", 2, x.frame(0, 63, 0, 0));
        due("frame MARK 64", BAD, x.frame(0, 64, 0, 0));
        due("frame MARK far below", BAD, x.frame(0, LOW, 0, 0));
        due("frame MARK far above", BAD, x.frame(0, HIGH, 0, 0));
        due("frames MARK 63", 3, x.frames(0, 1, bits(63, 0, 0)));
        due("frames MARK 0", 4, x.frames(0, 1, bits(0, 0, 0)));
        due("place MARK -1", BAD, x.place(-1, 0));
        due("place MARK 0", 1, x.place(0, 0));
        due("place MARK 63", 2, x.place(63, 0));
        due("place MARK 64", BAD, x.place(64, 0));
        int[] kept = {0, 63, 63, 0};
        for (int i = 0; i < kept.length; i++) {
            due("MARK of FRAME " + i, kept[i], x.at(0, i, 0));
        }
        due("MARKS of PLACES", 0, x.line(-1, 0, 0));
        due("MARKS of PLACES", 1, x.line(-1, 0, 1));
    }

    private static void wears() {
        says("a WEAR (0 to 9)");
        FilmWhole x = filmOf(0);
        due("frame WEAR -1", BAD, x.frame(0, 0, -1, 0));
        due("frame WEAR 0", 1, x.frame(0, 0, 0, 0));
        due("frame WEAR 9", 2, x.frame(0, 0, 9, 0));
        due("frame WEAR 10", BAD, x.frame(0, 0, 10, 0));
        due("frame WEAR far below", BAD, x.frame(0, 0, LOW, 0));
        due("frame WEAR far above", BAD, x.frame(0, 0, HIGH, 0));
        due("frames WEAR 9", 3, x.frames(0, 1, bits(0, 9, 0)));
        for (int wear = 10; wear <= 15; wear++) {
            due("frames WEAR " + wear, BAD, x.frames(0, 1, bits(0, wear, 0)));
        }
        due("wear -1", BAD, x.wear(0, 0, -1));
        due("wear 10", BAD, x.wear(0, 0, 10));
        due("wear far below", BAD, x.wear(0, 0, LOW));
        due("wear far above", BAD, x.wear(0, 0, HIGH));
        due("wear 9", 0, x.wear(0, 0, 9));
        due("wear 0", 9, x.wear(0, 1, 0));
        due("WEAR is 9", 9, x.at(0, 0, 1));
        due("WEAR is 0", 0, x.at(0, 1, 1));
        due("WEAR of frames is 9", 9, x.at(0, 2, 1));
    }

    private static void cameras() {
        says("a CAMERA (0, 1)");
        FilmWhole x = filmOf(0);
        due("CAMERA -1", BAD, x.frame(0, 0, 0, -1));
        due("CAMERA 0", 1, x.frame(0, 0, 0, 0));
        due("CAMERA 1", 2, x.frame(0, 0, 0, 1));
        due("CAMERA 2", BAD, x.frame(0, 0, 0, 2));
        due("CAMERA far below", BAD, x.frame(0, 0, 0, LOW));
        due("CAMERA far above", BAD, x.frame(0, 0, 0, HIGH));
        due("frames CAMERA 1", 3, x.frames(0, 1, bits(0, 0, 1)));
        due("is 0", 0, x.at(0, 0, 2));
        due("is 1", 1, x.at(0, 1, 2));
        due("of frames is 1", 1, x.at(0, 2, 2));
    }

    private static void callsAtMost() {
        says("at most 512 calls after it has been made");
        FilmWhole x = filmOf(40);
        for (int p = 0; p < 40; p++) {
            x.place(p, 0);
        }
        for (int call = 82; call < 511; call++) {
            due("call " + call, 0, x.whole(call % 41 - 1));
        }
        due("call 511", 0, x.wear(0, 39, 7));
        due("call 512", 7, x.whole(-1));
    }

    private static void placesAtMost() {
        says("a row of PLACES, 40 at most");
        FilmWhole x = new FilmWhole();
        for (int round = 0; round < 2; round++) {
            for (int n = 1; n <= 40; n++) {
                due("place " + n, n, x.place(n, 0));
            }
            due("a 41st", FULL, x.place(1, 0));
            due("a 41st again", FULL, x.place(1, 0));
            due("count(1)", 40, x.count(1));
            due("whole(39)", NONE, x.whole(39));
            due("whole(40)", BAD, x.whole(40));
            due("noScript()", 40, x.noScript());
        }
    }

    private static void shots() {
        says("a SHOT (0 to 5)");
        FilmWhole x = new FilmWhole();
        due("place SHOT -1", BAD, x.place(0, -1));
        due("place SHOT 6", BAD, x.place(0, 6));
        due("place SHOT far below", BAD, x.place(0, LOW));
        due("place SHOT far above", BAD, x.place(0, HIGH));
        due("place SHOT 0", 1, x.place(0, 0));
        due("place SHOT 5", 2, x.place(0, 5));
        due("cue SHOT -1", BAD, x.cue(-1, 0, 1));
        due("cue SHOT 6", BAD, x.cue(6, 0, 1));
        due("cue to SHOT -1", BAD, x.cue(0, -1, 1));
        due("cue to SHOT 6", BAD, x.cue(0, 6, 1));
        due("cue 0 5", 1, x.cue(0, 5, 1));
        due("cue 5 0", 2, x.cue(5, 0, 1));
    }

    private static void pairsDoNotCross() {
        says("pairs, that do not cross");
        // Crossing pairs would cost 0.
        dueLine(marked(row(10, 20), row(20, 10)), 0, 1, 6, 1, NONE);
        dueLine(marked(row(10, 20, 30), row(30, 20, 10)), 0, 1, 10, 0, 1, 2);
    }

    private static void oneAtMost() {
        says("each member of a row in one at most");
        dueLine(marked(row(7, 7, 7), row(7)), 0, 1, 6, 0, NONE, NONE);
        FilmWhole x = marked(row(7), row(7, 7, 7));
        dueLine(x, 0, 1, 6, 0);
        dueLine(x, 1, 0, 6, 0, NONE, NONE);
    }

    private static void pairCost() {
        says("of a pair the size of how far MARKS differ, 5 at most");
        for (int differ = 0; differ <= 63; differ++) {
            FilmWhole x = marked(row(0), row(differ));
            dueLine(x, 0, 1, Math.min(5, differ), 0);
            dueLine(x, 1, 0, Math.min(5, differ), 0);
        }
    }

    private static void unpairedCost() {
        says("of each member in no pair 3");
        FilmWhole x = filmOf(40);
        x.copy();
        due("none with none", 0, x.line(1, 1, -1));
        due("40 with none", 120, x.line(0, 1, -1));
        due("none with 40", 120, x.line(1, 0, -1));
        due("40 with THE SCRIPT that is empty", 120, x.line(0, -1, -1));
        due("THE SCRIPT that is empty with 40", 120, x.line(-1, 0, -1));
        due("the first is in no pair", NONE, x.line(0, 1, 0));
        due("the last is in no pair", NONE, x.line(0, 1, 39));
        x.frame(1, 0, 0, 0);
        due("40 with one", 117, x.line(0, 1, -1));
        due("one with 40", 117, x.line(1, 0, -1));
    }

    private static void leastCost() {
        says("LINING UP is one of least COST");
        // A pair of 5 goes before two in no pair, two of those go before two pairs of 4.
        dueLine(marked(row(0), row(5)), 0, 1, 5, 0);
        dueLine(marked(row(4, 8), row(8, 12)), 0, 1, 6, NONE, 0);
        dueLine(marked(row(3, 6), row(6, 9)), 0, 1, 6, 0, 1);
        FilmWhole x = new FilmWhole();
        x.copy();
        x.copy();
        for (int i = 0; i < 40; i++) {
            x.frame(0, 0, 0, 0);
            x.frame(1, 63, 0, 0);
        }
        due("40 pairs, the dearest", 200, x.line(0, 1, -1));
        due("the last of them", 39, x.line(0, 1, 39));
    }

    private static void firstOnesPair() {
        says("pairs the first ones, if that can lead to the least");
        dueLine(marked(row(7), row(7, 7)), 0, 1, 3, 0);
        dueLine(marked(row(7, 7), row(7)), 0, 1, 3, 0, NONE);
        dueLine(marked(row(5), row(4, 6)), 0, 1, 4, 0);
        dueLine(marked(row(5, 6), row(6)), 0, 1, 3, NONE, 0);
        // 3 + 3 by pairs is as dear as two in no pair beside a pair of 0.
        dueLine(marked(row(3, 6), row(6, 9)), 0, 1, 6, 0, 1);
    }

    private static void elseSecondIsLeft() {
        says("else leaves the first of the second row unpaired, if that can");
        dueLine(marked(row(10, 20), row(20, 10)), 0, 1, 6, 1, NONE);
        dueLine(marked(row(20, 10), row(10, 20)), 0, 1, 6, 1, NONE);
        dueLine(marked(row(10), row(20, 30, 10)), 0, 1, 6, 2);
    }

    private static void elseFirstIsLeft() {
        says("else that of the first");
        dueLine(marked(row(20, 10), row(10)), 0, 1, 3, NONE, 0);
        dueLine(marked(row(20, 30, 10), row(10)), 0, 1, 6, NONE, NONE, 0);
    }

    private static void standsScriptFirst() {
        says("in LINING UP of THE SCRIPT (first) with that COPY they are a pair");
        FilmWhole x = marked(row(20, 10));
        script(x, 0, 10, 20);
        due("stands(0, 0)", 1, x.stands(0, 0));
        due("stands(0, 1)", NONE, x.stands(0, 1));
        due("the other way FRAME 0 is paired", 1, x.line(0, -1, 0));
        due("the other way FRAME 1 is not", NONE, x.line(0, -1, 1));
    }

    private static void standsNear() {
        says("a pair whose MARKS differ by NEAR (0 to 5; 0 at first) at most");
        for (int near = 0; near <= 5; near++) {
            for (int differ = -7; differ <= 7; differ++) {
                FilmWhole x = marked(row(30 + differ));
                script(x, 0, 30);
                x.rule(0, near);
                due("NEAR " + near + ", differ by " + differ, Math.abs(differ) <= near ? 0 : NONE, x.stands(0, 0));
                due("NEAR " + near + ", a pair all the same", 0, x.line(-1, 0, 0));
            }
        }
    }

    private static void nearAtFirst() {
        says("NEAR (0 to 5; 0 at first)");
        FilmWhole x = marked(row(31));
        script(x, 0, 30);
        due("differ by 1 at first", NONE, x.stands(0, 0));
        due("rule(0, -1)", BAD, x.rule(0, -1));
        due("rule(0, 6)", BAD, x.rule(0, 6));
        due("NEAR was", 0, x.rule(0, 5));
        due("differ by 1", 0, x.stands(0, 0));
        due("NEAR was", 5, x.rule(0, 0));
    }

    private static void standsOrLost() {
        says("each PLACE gets a COPY whose FRAME STANDS for it, or is LOST");
        FilmWhole x = film(reel(f(30, 0, 0)), reel());
        script(x, 0, 31);
        dueWhole(x, "a pair, but not near", 20, NONE);
        x.rule(0, 1);
        dueWhole(x, "near", 0, 0);
        FilmWhole none = new FilmWhole();
        dueWhole(none, "no PLACES, no COPIES", 0);
        script(none, 0, 31);
        dueWhole(none, "no COPIES", 20, NONE);
        FilmWhole last = new FilmWhole();
        for (int c = 0; c <= 5; c++) {
            last.copy();
        }
        last.frame(5, 31, 3, 0);
        script(last, 0, 31);
        dueWhole(last, "the last COPY alone", 3, 5);
    }

    private static void priceOfWear() {
        says("PRICE: the sum of WEAR of those FRAMES");
        dueWhole(worn(0), "the least", 0, 0);
        dueWhole(worn(9), "the greatest of one", 9, 0);
        FilmWhole x = new FilmWhole();
        x.copy();
        for (int i = 0; i < 40; i++) {
            x.frame(0, i, 9, 0);
            x.place(i, 0);
        }
        due("the greatest of 40", 360, x.whole(-1));
    }

    private static void priceOfLost() {
        says("LOST (0 to 100; 20 at first) for each LOST one");
        FilmWhole x = new FilmWhole();
        script(x, 0, 1, 2);
        due("at first", 40, x.whole(-1));
        due("rule(1, 101)", BAD, x.rule(1, 101));
        due("rule(1, -1)", BAD, x.rule(1, -1));
        due("as it was", 40, x.whole(-1));
        due("LOST was", 20, x.rule(1, 100));
        due("the greatest", 200, x.whole(-1));
        for (int p = 2; p < 40; p++) {
            x.place(p, 0);
        }
        due("the greatest of 40", 4000, x.whole(-1));
        due("LOST was", 100, x.rule(1, 0));
        due("the least", 0, x.whole(-1));
    }

    /** Two PLACES of one SHOT, each with a FRAME of its own COPY and CAMERA alone. */
    private static FilmWhole twoCopies(int camera, int otherCamera) {
        FilmWhole x = film(reel(f(1, 0, camera)), reel(f(2, 0, otherCamera)));
        script(x, 0, 1, 2);
        x.rule(1, 100);
        return x;
    }

    private static void priceOfChange() {
        says("CHANGE (0 to 100; 4 at first), if COPIES are unlike");
        FilmWhole x = twoCopies(1, 1);
        dueWhole(x, "at first", 4, 0, 1);
        due("rule(2, 101)", BAD, x.rule(2, 101));
        due("rule(2, -1)", BAD, x.rule(2, -1));
        due("CHANGE was", 4, x.rule(2, 99));
        dueWhole(x, "below LOST", 99, 0, 1);
        due("CHANGE was", 99, x.rule(2, 100));
        dueWhole(x, "as dear as LOST: the lower COPY", 100, 0, 1);
        due("CHANGE was", 100, x.rule(2, 0));
        dueWhole(x, "free", 0, 0, 1);
        FilmWhole alike = worn(0, 0);
        alike.rule(2, 100);
        dueWhole(alike, "COPIES are like", 0, 0, 0);
    }

    private static void priceOfMix() {
        says("MIX (0 to 100; 30 at first), if CAMERAS are");
        FilmWhole x = twoCopies(0, 1);
        dueWhole(x, "at first, with CHANGE", 34, 0, 1);
        due("rule(3, 101)", BAD, x.rule(3, 101));
        due("rule(3, -1)", BAD, x.rule(3, -1));
        x.rule(2, 0);
        due("MIX was", 30, x.rule(3, 100));
        dueWhole(x, "as dear as LOST: the lower COPY", 100, 0, 1);
        due("MIX was", 100, x.rule(3, 0));
        dueWhole(x, "free", 0, 0, 1);
        FilmWhole one = film(reel(f(1, 0, 0), f(2, 0, 1)));
        script(one, 0, 1, 2);
        one.rule(1, 100);
        dueWhole(one, "in one COPY, without CHANGE", 30, 0, 0);
        FilmWhole back = film(reel(f(1, 0, 1), f(2, 0, 0)));
        script(back, 0, 1, 2);
        back.rule(1, 100);
        dueWhole(back, "CAMERA 1 first", 30, 0, 0);
    }

    private static void sideBySide() {
        says("for each two PLACES side by side");
        FilmWhole x = film(reel(f(1, 0, 0), f(3, 0, 0)), reel(f(2, 0, 1), f(4, 0, 1)));
        script(x, 0, 1, 2, 3, 4);
        x.rule(1, 100);
        dueWhole(x, "three times", 3 * 34, 0, 1, 0, 1);
        FilmWhole apart = film(reel(f(1, 0, 0)), reel(f(3, 0, 1)));
        script(apart, 0, 1, 2, 3);
        dueWhole(apart, "not side by side", 20, 0, NONE, 1);
    }

    private static void ofOneShot() {
        says("of one SHOT");
        FilmWhole x = film(reel(f(1, 0, 0)), reel(f(2, 0, 1)));
        x.place(1, 4);
        x.place(2, 5);
        dueWhole(x, "of two SHOTS", 0, 0, 1);
        FilmWhole again = film(reel(f(1, 0, 0), f(3, 0, 0)), reel(f(2, 0, 1)));
        again.place(1, 5);
        again.place(2, 0);
        again.place(3, 5);
        dueWhole(again, "the SHOT comes again", 0, 0, 1, 0);
    }

    private static void neitherLost() {
        says("neither LOST");
        FilmWhole x = film(reel(f(1, 0, 0)), reel(f(3, 0, 1)));
        script(x, 0, 1, 2, 3);
        x.rule(2, 100);
        x.rule(3, 100);
        dueWhole(x, "LOST between", 20, 0, NONE, 1);
        due("no CHANGE", 0, x.about(1));
        due("no MIX", 0, x.about(2));
        FilmWhole ends = film(reel(f(2, 0, 0)));
        script(ends, 0, 1, 2, 3);
        ends.rule(2, 100);
        dueWhole(ends, "LOST at both ends", 40, NONE, 0, NONE);
    }

    private static void leastPrice() {
        says("THE WHOLE is one of least PRICE");
        FilmWhole x = film(reel(f(1, 0, 0), f(2, 9, 0), f(3, 0, 0)), reel(f(1, 9, 0), f(2, 0, 0), f(3, 9, 0)));
        script(x, 0, 1, 2, 3);
        dueWhole(x, "two CHANGES are 8, WEAR is 9", 8, 0, 1, 0);
        x.wear(0, 1, 7);
        dueWhole(x, "two CHANGES are 8, WEAR is 7", 7, 0, 0, 0);
        FilmWhole later = film(reel(f(1, 0, 0), f(2, 9, 0), f(3, 9, 0)), reel(f(1, 3, 0), f(2, 0, 0), f(3, 0, 0)));
        script(later, 0, 1, 2, 3);
        dueWhole(later, "what comes later counts: 3 is less than CHANGE", 3, 1, 1, 1);
        later.wear(1, 0, 5);
        dueWhole(later, "what comes later counts: 5 is more", 4, 0, 1, 1);
        FilmWhole far = new FilmWhole();
        far.copy();
        far.copy();
        for (int p = 0; p < 40; p++) {
            far.frame(0, p, 1, 0);
            if (p < 39) {
                far.frame(1, p, 0, 0);
            }
            far.place(p, 0);
        }
        due("what comes last counts: a CHANGE there", 5, far.whole(-1));
        due("a CHANGE at the last", 1, far.whole(38));
        far.rule(2, 100);
        far.rule(1, 39);
        due("what comes last counts: LOST there", 39, far.whole(-1));
        due("the first", 1, far.whole(0));
        due("the last", NONE, far.whole(39));
        far.rule(1, 41);
        due("what comes last counts: none LOST", 40, far.whole(-1));
        due("the first", 0, far.whole(0));
        due("the last", 0, far.whole(39));
    }

    private static void lowerCopyFirst() {
        says("of several that whose COPY at the first PLACE at which they part is lower");
        int[][] alike = reel(f(1, 1, 0), f(2, 1, 0));
        FilmWhole x = film(alike, alike, alike, alike, alike, alike);
        script(x, 0, 1, 2);
        dueWhole(x, "six alike", 2, 0, 0);
        x.wear(0, 0, 2);
        dueWhole(x, "the first is worn", 2, 1, 1);
        FilmWhole part = film(reel(f(1, 0, 0), f(2, 4, 0)), reel(f(1, 4, 0), f(2, 0, 0)));
        script(part, 0, 1, 2);
        dueWhole(part, "0 0, 0 1 and 1 1 cost 4", 4, 0, 0);
        part.wear(0, 1, 5);
        dueWhole(part, "0 1 and 1 1 cost 4", 4, 0, 1);
        part.wear(0, 0, 1);
        dueWhole(part, "1 1 alone costs 4", 4, 1, 1);
    }

    private static void lostIsAboveAll() {
        says("LOST is above all");
        FilmWhole x = new FilmWhole();
        for (int c = 0; c <= 5; c++) {
            x.copy();
        }
        x.frame(5, 1, 9, 0);
        script(x, 0, 1);
        x.rule(1, 9);
        dueWhole(x, "as dear as LOST", 9, 5);
        x.rule(1, 8);
        dueWhole(x, "dearer than LOST", 8, NONE);
        FilmWhole free = worn(0, 0);
        free.rule(1, 0);
        dueWhole(free, "both are free", 0, 0, 0);
        FilmWhole one = film(reel(f(1, 0, 0), f(2, 0, 1)));
        script(one, 0, 1, 2);
        one.rule(1, 30);
        dueWhole(one, "MIX as dear as LOST", 30, 0, 0);
        one.rule(1, 29);
        dueWhole(one, "LOST at the last rather than at the first", 29, 0, NONE);
    }

    private static void mendedBesideTwoPlaces() {
        says("at a PLACE whose PLACES just ahead and behind");
        due("one PLACE", NO, worn(9).mend(0));
        due("two PLACES, the first", NO, worn(9, 0).mend(0));
        due("two PLACES, the last", NO, worn(0, 9).mend(1));
        due("three PLACES, the first", NO, worn(9, 0, 0).mend(0));
        due("three PLACES, the last", NO, worn(0, 0, 9).mend(2));
        due("three PLACES, between", 0, worn(0, 9, 0).mend(1));
        FilmWhole full = filmOf(40);
        for (int p = 0; p < 40; p++) {
            full.place(p, 0);
        }
        for (int i : new int[] {0, 1, 38, 39}) {
            full.wear(0, i, 5);
        }
        full.wear(0, 1, 6);
        full.wear(0, 38, 6);
        due("the first of 40", NO, full.mend(0));
        due("the last of 40", NO, full.mend(39));
        due("the second of 40", 5, full.mend(1));
        due("the last but one of 40", 5, full.mend(38));
        // It is PLACES that are beside: a FRAME that stands for none is passed over.
        FilmWhole apart = film(reel(f(1, 2, 0), f(50, 9, 0), f(2, 8, 0), f(60, 9, 0), f(3, 3, 0)));
        script(apart, 0, 1, 2, 3);
        due("a worn FRAME beside that stands for no PLACE", 3, apart.mend(1));
        due("FRAME 2", 3, apart.at(0, 2, 1));
    }

    private static void mendedOfTheSameShot() {
        says("are of the same SHOT");
        for (int shots = 0; shots < 4; shots++) {
            FilmWhole x = film(reel(f(1, 0, 0), f(2, 9, 0), f(3, 0, 0)));
            x.place(1, shots % 2);
            x.place(2, 0);
            x.place(3, shots / 2);
            due("SHOTS " + shots % 2 + " 0 " + shots / 2, shots == 0 ? 0 : NO, x.mend(1));
        }
        FilmWhole both = film(reel(f(1, 0, 0), f(2, 9, 0), f(3, 0, 0)));
        both.place(1, 1);
        both.place(2, 0);
        both.place(3, 1);
        due("of one SHOT, but not of its", NO, both.mend(1));
    }

    private static void mendedNotBesideLost() {
        says("not LOST");
        FilmWhole ahead = film(reel(f(2, 9, 0), f(3, 0, 0)));
        script(ahead, 0, 1, 2, 3);
        due("LOST ahead", NO, ahead.mend(1));
        FilmWhole behind = film(reel(f(1, 0, 0), f(2, 9, 0)));
        script(behind, 0, 1, 2, 3);
        due("LOST behind", NO, behind.mend(1));
        FilmWhole itself = film(reel(f(1, 0, 0), f(3, 0, 0)));
        script(itself, 0, 1, 2, 3);
        due("LOST itself", NO, itself.mend(1));
        FilmWhole all = new FilmWhole();
        script(all, 0, 1, 2, 3);
        due("all LOST", NO, all.mend(1));
        FilmWhole dear = worn(0, 9, 0);
        dear.rule(1, 8);
        due("LOST is less dear than its FRAME", NO, dear.mend(1));
        dear.rule(1, 9);
        due("LOST is not", 0, dear.mend(1));
    }

    private static void mendedFromTheSameCopy() {
        says("from the same COPY");
        int[][] one = reel(f(1, 1, 0), f(2, 9, 0), f(3, 1, 0));
        FilmWhole ahead = film(one, reel(f(1, 0, 0)));
        script(ahead, 0, 1, 2, 3);
        ahead.rule(2, 0);
        dueWhole(ahead, "another ahead", 10, 1, 0, 0);
        due("another ahead", NO, ahead.mend(1));
        ahead.rule(2, 1);
        due("the same again, as CHANGE does not pay", 1, ahead.mend(1));
        FilmWhole behind = film(one, reel(f(3, 0, 0)));
        script(behind, 0, 1, 2, 3);
        behind.rule(2, 0);
        dueWhole(behind, "another behind", 10, 0, 0, 1);
        due("another behind", NO, behind.mend(1));
        FilmWhole between = film(reel(f(1, 0, 0), f(3, 0, 0)), reel(f(2, 9, 0)));
        script(between, 0, 1, 2, 3);
        due("both others", NO, between.mend(1));
        FilmWhole cameras = film(reel(f(1, 0, 0), f(2, 9, 1), f(3, 0, 0)));
        script(cameras, 0, 1, 2, 3);
        cameras.rule(3, 0);
        due("CAMERAS may be unlike", 0, cameras.mend(1));
    }

    private static void mendedWithLessWear() {
        says("with less WEAR than it");
        for (int ahead = 0; ahead <= 9; ahead++) {
            for (int behind = 0; behind <= 9; behind++) {
                int want = ahead < 5 && behind < 5 ? Math.max(ahead, behind) : NO;
                due("WEAR " + ahead + " 5 " + behind, want, worn(ahead, 5, behind).mend(1));
            }
        }
        due("none is less than 0", NO, worn(0, 0, 0).mend(1));
        due("one less than 9", 8, worn(8, 9, 8).mend(1));
    }

    private static void mendedIsTheGreater() {
        says("its WEAR becomes the greater of these two");
        FilmWhole x = worn(3, 9, 6);
        due("mend(1)", 6, x.mend(1));
        due("its WEAR", 6, x.at(0, 1, 1));
        due("that ahead", 3, x.at(0, 0, 1));
        due("that behind", 6, x.at(0, 2, 1));
        due("again", NO, x.mend(1));
        FilmWhole other = worn(6, 9, 3);
        due("mend(1)", 6, other.mend(1));
        due("its WEAR", 6, other.at(0, 1, 1));
    }

    private static void mendedIsAStep() {
        says("It is a STEP");
        FilmWhole x = worn(0, 9, 0);
        due("count(4)", 0, x.count(4));
        x.mend(1);
        due("count(4) then", 1, x.count(4));
        due("undo()", 1, x.undo());
        due("its WEAR", 9, x.at(0, 1, 1));
        due("count(4) again", 0, x.count(4));
        due("refused", NO, x.mend(0));
        due("a refused one is none", 0, x.count(4));
    }

    private static void tintsOneToNine() {
        says("a TINT (1 to 9)");
        FilmWhole x = worn(0);
        due("TINT 0", BAD, x.note(0, 0, 0, 0));
        due("TINT 10", BAD, x.note(0, 0, 0, 10));
        due("TINT -1", BAD, x.note(0, 0, 0, -1));
        due("TINT far below", BAD, x.note(0, 0, 0, LOW));
        due("TINT far above", BAD, x.note(0, 0, 0, HIGH));
        due("no TINT yet", 0, x.tint(0));
        due("TINT 1", 1, x.note(0, 0, 0, 1));
        due("tint(0)", 1, x.tint(0));
        due("TINT 9", 2, x.note(0, 0, 0, 9));
        due("tint(0)", 9, x.tint(0));
    }

    private static void tintBothWith() {
        says("from FRAME a to b (both with");
        FilmWhole x = worn(0, 0, 0, 0, 0);
        x.note(0, 1, 3, 4);
        int[] want = {0, 4, 4, 4, 0};
        for (int p = 0; p < want.length; p++) {
            due("tint(" + p + ")", want[p], x.tint(p));
        }
        due("a is b", 2, x.note(0, 4, 4, 5));
        due("tint(4)", 5, x.tint(4));
        due("tint(3)", 4, x.tint(3));
        due("all", 3, x.note(0, 0, 4, 6));
        due("tint(0)", 6, x.tint(0));
        due("tint(4)", 6, x.tint(4));
        due("b ahead of a", BAD, x.note(0, 3, 1, 4));
        due("b just ahead of a", BAD, x.note(0, 3, 2, 4));
    }

    private static void notesAtMost() {
        says("12 at most in all");
        FilmWhole x = marked(row(1), row(1), row(1));
        for (int n = 1; n <= 12; n++) {
            due("note " + n, n, x.note(n % 3, 0, 0, 1));
        }
        due("a 13th", FULL, x.note(0, 0, 0, 1));
        due("a 13th of another COPY", FULL, x.note(1, 0, 0, 1));
        due("count(2)", 12, x.count(2));
    }

    private static void latestNote() {
        says("of several the latest");
        FilmWhole x = worn(0, 0);
        for (int n = 1; n <= 12; n++) {
            x.note(0, 0, n % 2, 1 + n % 9);
            due("tint(0) after note " + n, 1 + n % 9, x.tint(0));
        }
        due("tint(1): the 11th is the latest with FRAME 1", 3, x.tint(1));
        x.note(0, 0, 0, 8);
        due("a 13th is none", 4, x.tint(0));
    }

    private static void tintOfSource() {
        says("that of the COPY that is its SOURCE for that FRAME, if there is a note");
        FilmWhole x = film(reel(f(1, 1, 0), f(2, 1, 0)), reel(f(1, 0, 0), f(2, 5, 0)));
        x.place(1, 0);
        x.place(2, 1);
        x.note(0, 0, 1, 3);
        x.note(1, 0, 1, 4);
        due("the SOURCE is 1", 4, x.tint(0));
        due("the SOURCE is 0", 3, x.tint(1));
        FilmWhole tied = film(reel(f(1, 1, 0)), reel(f(1, 1, 0)));
        script(tied, 0, 1);
        tied.note(1, 0, 0, 4);
        due("no note of the SOURCE", 4, tied.tint(0));
        tied.note(0, 0, 0, 3);
        due("a note of the SOURCE", 3, tied.tint(0));
        // CHANGE keeps a SOURCE that is not the one that is worn least.
        FilmWhole kept = film(reel(f(1, 3, 0), f(2, 0, 0)), reel(f(1, 0, 0)));
        script(kept, 0, 1, 2);
        kept.note(1, 0, 0, 4);
        kept.note(0, 0, 0, 3);
        due("the SOURCE is worn more", 3, kept.tint(0));
    }

    private static void tintOfLeastWorn() {
        says("else of the COPY that has one for its FRAME that STANDS there, with the least WEAR");
        FilmWhole x = film(reel(f(1, 0, 0)), reel(f(1, 9, 0)), reel(f(1, 8, 0)), reel(f(2, 0, 0)), reel(f(50, 0, 0), f(1, 9, 0)));
        script(x, 0, 1);
        due("none has one", 0, x.tint(0));
        x.note(3, 0, 0, 1);
        due("a pair that is not NEAR", 0, x.tint(0));
        x.note(4, 0, 0, 2);
        due("a FRAME that stands for none", 0, x.tint(0));
        x.note(1, 0, 0, 3);
        due("WEAR 9", 3, x.tint(0));
        x.note(2, 0, 0, 4);
        due("WEAR 8", 4, x.tint(0));
        x.rule(0, 1);
        due("now near: WEAR 0", 1, x.tint(0));
        x.rule(0, 0);
        x.rule(1, 0);
        x.wear(0, 0, 1);
        due("LOST", NONE, x.whole(0));
        due("LOST: WEAR 8", 4, x.tint(0));
    }

    private static void tintOfLowest() {
        says("with the least WEAR (of several the lowest)");
        FilmWhole x = film(reel(f(1, 0, 0)), reel(f(1, 9, 0)), reel(f(1, 9, 0)), reel(f(1, 9, 0)), reel(f(1, 9, 0)), reel(f(1, 9, 0)));
        script(x, 0, 1);
        for (int c = 5; c >= 1; c--) {
            x.note(c, 0, 0, c);
            due("COPY " + c + " is the lowest", c, x.tint(0));
        }
        x.note(5, 0, 0, 9);
        due("the lowest, not the latest", 1, x.tint(0));
        x.wear(5, 0, 8);
        due("the least WEAR, not the lowest", 9, x.tint(0));
        FilmWhole lowest = film(reel(f(1, 5, 0)), reel(f(1, 5, 0)), reel(f(1, 0, 0)));
        script(lowest, 0, 1);
        lowest.note(1, 0, 0, 1);
        lowest.note(0, 0, 0, 2);
        due("COPY 0 is the lowest", 2, lowest.tint(0));
    }

    private static void tintElseNone() {
        says("else 0");
        FilmWhole x = worn(0, 0);
        x.place(50, 0);
        x.note(0, 1, 1, 5);
        due("no note for its FRAME", 0, x.tint(0));
        due("LOST and none stands", 0, x.tint(2));
        due("a note", 5, x.tint(1));
    }

    private static void cuesAtMost() {
        says("CUES, 20 at most");
        FilmWhole x = new FilmWhole();
        for (int round = 0; round < 2; round++) {
            for (int n = 1; n <= 20; n++) {
                due("cue " + n, n, x.cue(n % 6, (n + 1) % 6, 1));
            }
            due("a 21st", FULL, x.cue(0, 1, 1));
            due("a 21st again", FULL, x.cue(5, 4, 1));
            due("count(3)", 20, x.count(3));
            due("noCues()", 20, x.noCues());
        }
    }

    private static void weights() {
        says("a WEIGHT (1 to 100)");
        FilmWhole x = new FilmWhole();
        for (int weight : new int[] {LOW, -1, 0, 101, HIGH}) {
            due("WEIGHT " + weight, BAD, x.cue(0, 1, weight));
        }
        due("WEIGHT 1", 1, x.cue(0, 1, 1));
        due("WEIGHT 100", 2, x.cue(1, 0, 100));
        due("QUARREL", 1, x.order(2, -1));
        due("order", 10, ordered(x, 2));
        FilmWhole heavy = new FilmWhole();
        for (int n = 0; n < 20; n++) {
            heavy.cue(n % 2, 1 - n % 2, 100);
        }
        due("ten of 100 each way", 1000, heavy.order(2, -1));
    }

    private static void shotsOfOrder() {
        says("an order of SHOTS 0 to n - 1 (n 2 to 6)");
        FilmWhole x = new FilmWhole();
        for (int n : new int[] {LOW, -1, 0, 1, 7, 8, HIGH}) {
            for (int i = -2; i <= 1; i++) {
                due("order(" + n + ", " + i + ")", BAD, x.order(n, i));
            }
        }
        due("two", 1, ordered(x, 2));
        due("six", 12345, ordered(x, 6));
    }

    private static void cuesBelow() {
        says("CUES, both of whose SHOTS are below n");
        FilmWhole x = new FilmWhole();
        x.cue(5, 0, 7);
        x.cue(0, 5, 9);
        x.cue(2, 1, 3);
        due("two", 0, x.order(2, -1));
        due("two: RIVALS", 2, x.order(2, -2));
        due("three: its order", 21, ordered(x, 3));
        due("five: QUARREL", 0, x.order(5, -1));
        due("six: QUARREL", 7, x.order(6, -1));
        due("five: its order", 2134, ordered(x, 5));
        for (int n = 2; n <= 5; n++) {
            due("six do not stay in " + n, 0, x.order(n, -1));
            due("six again", 7, x.order(6, -1));
        }
    }

    private static void cuesTheOtherWay() {
        says("the sum of WEIGHTS of CUES, both of whose SHOTS are below n, that it has the other way");
        FilmWhole x = new FilmWhole();
        x.cue(0, 1, 10);
        x.cue(1, 0, 4);
        x.cue(1, 0, 5);
        due("4 and 5 together", 9, x.order(2, -1));
        due("their order", 1, ordered(x, 2));
        x.cue(1, 0, 2);
        due("10 alone", 10, x.order(2, -1));
        due("their order", 10, ordered(x, 2));
        due("one order", 1, x.order(2, -2));
    }

    private static void lowerShotsFirst() {
        says("of several that whose SHOTS are lower, from the first on");
        FilmWhole x = new FilmWhole();
        due("without CUES", 12345, ordered(x, 6));
        x.cue(1, 0, 1);
        due("1 ahead of 0", 102345, ordered(x, 6));
        x.noCues();
        x.cue(5, 1, 1);
        due("5 ahead of 1: 0 2 3 4 5 1", 23451, ordered(x, 6));
        x.noCues();
        x.cue(0, 1, 5);
        x.cue(1, 0, 5);
        due("both ways", 12345, ordered(x, 6));
        x.noCues();
        x.cue(0, 1, 1);
        x.cue(1, 2, 1);
        x.cue(2, 0, 1);
        due("round and round", 12, ordered(x, 3));
        x.noCues();
        for (int s = 0; s < 5; s++) {
            x.cue(s + 1, s, 1);
        }
        due("the other way round", 543210, ordered(x, 6));
    }

    private static void rivals() {
        says("RIVALS: how many orders have the least");
        FilmWhole x = new FilmWhole();
        int[] all = {2, 6, 24, 120, 720};
        for (int n = 2; n <= 6; n++) {
            due("of " + n, all[n - 2], x.order(n, -2));
        }
        x.cue(0, 1, 5);
        due("half of 720", 360, x.order(6, -2));
        x.cue(1, 0, 5);
        due("all of 720, with the same QUARREL", 720, x.order(6, -2));
        due("QUARREL", 5, x.order(6, -1));
        x.noCues();
        for (int s = 0; s < 5; s++) {
            x.cue(s, s + 1, 100);
        }
        due("one alone", 1, x.order(6, -2));
    }

    private static void stepsKept() {
        says("30 are kept");
        FilmWhole x = worn(0, 9, 0);
        for (int k = 1; k <= 30; k++) {
            x.wear(0, 0, k % 9 + 1);
            due("STEPS", k, x.count(4));
        }
        due("a 31st is done all the same", 4, x.wear(0, 0, 0));
        due("30 are kept", 30, x.count(4));
        due("a MENDED one is done all the same", 0, x.mend(1));
        due("30 are kept", 30, x.count(4));
        due("the latest", 1, x.undo());
        for (int k = 29; k >= 1; k--) {
            due("undo()", 0, x.undo());
        }
        due("what the second one of 32 made, as two are not kept", 3, x.at(0, 0, 1));
        due("none is left", NO, x.undo());
        due("none is left", 0, x.count(4));
        FilmWhole many = new FilmWhole();
        for (int c = 0; c <= 5; c++) {
            many.copy();
            many.frames(c, 4, 0);
        }
        for (int k = 0; k < 40; k++) {
            many.wear(k % 6, k % 4, k % 9 + 1);
        }
        for (int k = 39; k >= 10; k--) {
            due("each its own, STEP " + k, k % 6 * 100 + k % 4, many.undo());
        }
        due("the tenth of 40 is not kept", NO, many.undo());
        for (int k = 0; k < 10; k++) {
            due("STEP " + k + " stays", k % 9 + 1, many.at(k % 6, k % 4, 1));
        }
        FilmWhole exact = filmOf(1);
        for (int k = 1; k <= 30; k++) {
            exact.wear(0, 0, k % 9 + 1);
        }
        for (int k = 1; k <= 30; k++) {
            exact.undo();
        }
        due("30 and no more: all undone", 0, exact.at(0, 0, 1));
    }

    private static void latestStepBack() {
        says("undo() takes the latest one back");
        FilmWhole x = worn(0, 9, 5);
        due("mend", 5, x.mend(1));
        due("wear", 5, x.wear(0, 2, 1));
        due("mend again", NO, worn(5, 5, 1).mend(1));
        due("the latest", 2, x.undo());
        due("back", 5, x.at(0, 2, 1));
        due("the other stays", 5, x.at(0, 1, 1));
        due("the one ahead of it", 1, x.undo());
        due("back", 9, x.at(0, 1, 1));
        due("then it can be MENDED again", 5, x.mend(1));
        due("a STEP again", 1, x.count(4));
    }
}
