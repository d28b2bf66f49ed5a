import java.util.Random;

/** A random run of calls (the seed is fixed), each answer held against the Model's. */
final class Run {
    /** The document's limit is 512; one of someCall()'s turns makes fewer than 50. */
    private static final int MOST_CALLS = 460;
    private static final int MOST_MEMBERS = 40;

    private final Check check;
    private final Random random;
    private final FilmWhole film = new FilmWhole();
    private final Model model;
    private final StringBuilder told = new StringBuilder();
    private int calls;
    // Bounds for what the Model, if it tries everything, can still answer.
    private final int mostCopies;
    private final int mostMembers;
    private final int spread;

    private Run(Check check, Model model, Random random, int mostCopies, int mostMembers) {
        this.check = check;
        this.model = model;
        this.random = random;
        this.mostCopies = mostCopies;
        this.mostMembers = mostMembers;
        spread = 1 + below(12);
    }

    /** Few FRAMES and PLACES, so that the Model can try every way. */
    static Run small(Check check, Model model, int seed) {
        Random random = new Random(seed);
        int mostCopies = 1 + random.nextInt(4);
        return new Run(check, model, random, mostCopies, mostCopies > 2 ? 4 : 5);
    }

    /** As many COPIES, FRAMES and PLACES as the document allows. */
    static Run large(Check check, int seed) {
        return new Run(check, new LargeModel(), new Random(seed), 6, MOST_MEMBERS);
    }

    void go() {
        setRules();
        fill();
        while (calls < MOST_CALLS && !check.anyWrong()) {
            someCall();
        }
        if (check.anyWrong()) {
            System.out.println("run:" + told);
        }
    }

    private int below(int n) {
        return random.nextInt(n);
    }

    // Mostly from low to high, now and then just beside.
    private int about(int low, int high) {
        return below(12) == 0 ? (below(2) == 0 ? low - 1 : high + 1) : low + below(high - low + 1);
    }

    // In large films mostly in order, as a film is, so that rows do line up.
    private int markNear(int i) {
        return mostMembers < MOST_MEMBERS || below(8) == 0 ? mark() : (i * spread / 8 + below(2)) % 64;
    }

    private int mark() {
        return below(40) == 0 ? about(0, 63) : 20 + below(spread);
    }

    private void same(String call, int want, int got) {
        calls++;
        told.append(' ').append(call).append('=').append(got);
        check.due(call, want, got);
    }

    private void setRules() {
        if (below(3) > 0) {
            rule(0, below(6));
            rule(1, below(30));
            rule(2, below(3) == 0 ? 50 : below(8));
            rule(3, below(10));
        }
    }

    // Small films grow by calls that come by chance, so that they are asked at every size.
    private void fill() {
        for (int c = below(2); c < mostCopies && mostMembers == MOST_MEMBERS; c++) {
            copy();
            for (int i = below(12); i < mostMembers; i += 4) {
                frames(model.count(0) - 1, 4, i);
            }
            note(model.count(0) - 1, below(20));
        }
        fillScript();
    }

    private void fillScript() {
        for (int p = below(8); p < mostMembers && mostMembers == MOST_MEMBERS; p++) {
            place(markNear(p), p / 9);
        }
    }

    private void rule(int what, int v) {
        same("rule(" + what + "," + v + ")", model.rule(what, v), film.rule(what, v));
    }

    private void someCall() {
        int copy = about(0, mostCopies - 1);
        int i = about(0, mostMembers - 1);
        switch (below(26)) {
            case 0 -> copy();
            case 1, 2, 3 -> frame(copy, markNear(i), about(0, 9), about(0, 1));
            case 4 -> frames(copy, about(1, 4), i);
            case 5 -> at(copy, i, about(0, 2));
            case 6, 7 -> wear(copy, i, about(0, 9));
            case 8, 9, 10 -> place(markNear(model.count(1)), below(3) == 0 ? about(0, 5) : 0);
            case 11 -> noScript();
            case 12 -> rule(about(0, 3), below(4) == 0 ? about(0, 100) : about(0, 5));
            case 13, 14 -> line(about(-1, mostCopies - 1), about(-1, mostCopies - 1), about(-1, mostMembers - 1));
            case 15, 16 -> same("stands(" + copy + "," + i + ")", model.stands(copy, i), film.stands(copy, i));
            case 17 -> allWhole();
            case 18 -> allAbout();
            case 19 -> same("mend(" + i + ")", model.mend(i), film.mend(i));
            case 20 -> allMends();
            case 21 -> note(copy, i);
            case 22 -> allTints();
            case 23 -> cue(about(0, 5), about(0, 5), below(4) == 0 ? about(1, 100) : about(1, 3));
            case 24 -> allOrder(about(2, 6));
            default -> undoOrCount();
        }
    }

    private void copy() {
        if (mostMembers == MOST_MEMBERS || model.count(0) < mostCopies) {
            same("copy()", model.copy(), film.copy());
        }
    }

    private boolean hasRoom(int copy, int n) {
        return mostMembers == MOST_MEMBERS || model.at(copy, mostMembers - n, 0) < 0;
    }

    private void frame(int copy, int mark, int wear, int camera) {
        if (hasRoom(copy, 1)) {
            same("frame(" + copy + "," + mark + "," + wear + "," + camera + ")",
                    model.frame(copy, mark, wear, camera), film.frame(copy, mark, wear, camera));
        }
    }

    private void frames(int copy, int n, int i) {
        long v = below(4) == 0 ? random.nextLong() : 0;
        for (int k = 0; k < n; k++) {
            v = v << 16 | (markNear(i + k) & 63) << 10 | (below(20) == 0 ? 10 : below(10)) << 6 | below(2) << 5
                    | (below(30) == 0 ? 1 << below(5) : 0);
        }
        if (hasRoom(copy, n)) {
            same("frames(" + copy + "," + n + "," + v + ")", model.frames(copy, n, v), film.frames(copy, n, v));
        }
    }

    private void at(int copy, int i, int what) {
        same("at(" + copy + "," + i + "," + what + ")", model.at(copy, i, what), film.at(copy, i, what));
    }

    private void wear(int copy, int i, int v) {
        same("wear(" + copy + "," + i + "," + v + ")", model.wear(copy, i, v), film.wear(copy, i, v));
    }

    private void place(int mark, int shot) {
        if (mostMembers == MOST_MEMBERS || model.count(1) < mostMembers) {
            same("place(" + mark + "," + shot + ")", model.place(mark, shot), film.place(mark, shot));
        }
    }

    private void noScript() {
        if (below(4) == 0) {
            same("noScript()", model.noScript(), film.noScript());
            fillScript();
        }
    }

    private void line(int one, int two, int i) {
        same("line(" + one + "," + two + "," + i + ")", model.line(one, two, i), film.line(one, two, i));
    }

    private void allWhole() {
        for (int i = -2; i <= mostMembers; i++) {
            same("whole(" + i + ")", model.whole(i), film.whole(i));
        }
    }

    private void allAbout() {
        for (int what = -1; what <= 3; what++) {
            same("about(" + what + ")", model.about(what), film.about(what));
        }
    }

    private void allMends() {
        for (int p = -1; p <= mostMembers; p++) {
            same("mend(" + p + ")", model.mend(p), film.mend(p));
        }
    }

    private void note(int copy, int a) {
        int b = a + about(0, 1 + mostMembers / 10);
        int tint = about(1, 9);
        same("note(" + copy + "," + a + "," + b + "," + tint + ")",
                model.note(copy, a, b, tint), film.note(copy, a, b, tint));
    }

    private void allTints() {
        for (int p = -1; p <= mostMembers; p++) {
            same("tint(" + p + ")", model.tint(p), film.tint(p));
        }
    }

    private void cue(int a, int b, int weight) {
        same("cue(" + a + "," + b + "," + weight + ")", model.cue(a, b, weight), film.cue(a, b, weight));
        if (below(25) == 0) {
            same("noCues()", model.noCues(), film.noCues());
        }
    }

    private void allOrder(int n) {
        for (int i = -3; i <= n; i++) {
            same("order(" + n + "," + i + ")", model.order(n, i), film.order(n, i));
        }
    }

    private void undoOrCount() {
        if (below(2) == 0) {
            same("undo()", model.undo(), film.undo());
        }
        for (int what = -1; what <= 5; what++) {
            same("count(" + what + ")", model.count(what), film.count(what));
        }
    }
}
