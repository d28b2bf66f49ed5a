/** What tests by hand share: films told in short, and answers held against those that are due. */
class Films {
    static final int BAD = FilmWhole.BAD, NO = FilmWhole.NO, FULL = FilmWhole.FULL, NONE = FilmWhole.NONE;
    static final int LOW = Integer.MIN_VALUE, HIGH = Integer.MAX_VALUE;
    static final Check CHECK = new Check();

    Films() {
    }

    static void says(String words) {
        CHECK.says(words);
    }

    static void due(String call, long want, long got) {
        CHECK.due(call, want, got);
    }

    /** A film whose COPIES are told as rows of {mark, wear, camera}. */
    static FilmWhole film(int[][]... copies) {
        FilmWhole x = new FilmWhole();
        for (int[][] told : copies) {
            int c = x.copy();
            for (int[] f : told) {
                x.frame(c, f[0], f[1], f[2]);
            }
        }
        return x;
    }

    static FilmWhole marked(int[]... copies) {
        FilmWhole x = new FilmWhole();
        for (int[] marks : copies) {
            int c = x.copy();
            for (int m : marks) {
                x.frame(c, m, 0, 0);
            }
        }
        return x;
    }

    static int[] row(int... marks) {
        return marks;
    }

    static int[] f(int mark, int wear, int camera) {
        return new int[] {mark, wear, camera};
    }

    static int[][] reel(int[]... frames) {
        return frames;
    }

    static void script(FilmWhole x, int shot, int... marks) {
        for (int m : marks) {
            x.place(m, shot);
        }
    }

    static void dueWhole(FilmWhole x, String what, int price, int... sources) {
        due(what + ": whole(-1)", price, x.whole(-1));
        for (int i = 0; i < sources.length; i++) {
            due(what + ": whole(" + i + ")", sources[i], x.whole(i));
        }
        due(what + ": whole behind the last", BAD, x.whole(sources.length));
    }

    static void dueLine(FilmWhole x, int one, int two, int cost, int... partners) {
        String what = "line(" + one + ", " + two + ", ";
        due(what + "-1)", cost, x.line(one, two, -1));
        for (int i = 0; i < partners.length; i++) {
            due(what + i + ")", partners[i], x.line(one, two, i));
        }
        due(what + "behind the last)", BAD, x.line(one, two, partners.length));
        due(what + "-2)", BAD, x.line(one, two, -2));
    }

    static long bits(int mark, int wear, int camera) {
        return (long) mark << 10 | (long) wear << 6 | (long) camera << 5;
    }

    /** A film with so many FRAMES, MARKS from 0 on, in its one COPY. */
    static FilmWhole filmOf(int frames) {
        FilmWhole x = new FilmWhole();
        x.copy();
        for (int i = 0; i < frames; i++) {
            x.frame(0, i, 0, 0);
        }
        return x;
    }

    /** A film of one COPY with these WEARS, MARKS from 0 on, and a SCRIPT of one SHOT that is like it. */
    static FilmWhole worn(int... wears) {
        FilmWhole x = new FilmWhole();
        x.copy();
        for (int i = 0; i < wears.length; i++) {
            x.frame(0, i, wears[i], 0);
            x.place(i, 0);
        }
        return x;
    }

    /** SHOTS of THE ORDER as digits. */
    static long ordered(FilmWhole x, int n) {
        long digits = 0;
        for (int i = 0; i < n; i++) {
            digits = digits * 10 + x.order(n, i);
        }
        return digits;
    }
}
