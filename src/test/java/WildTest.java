import java.util.Random;

/** Arguments of every size in every state: no call throws, and every answer is one that its promise allows. */
public final class WildTest {
    private static final int[] WILD = {Integer.MIN_VALUE, Integer.MIN_VALUE + 1, -65536, -100, -4, -3, -2, -1, 0, 1, 2, 3,
            4, 5, 6, 7, 9, 10, 12, 13, 30, 39, 40, 41, 63, 64, 100, 101, 65536, Integer.MAX_VALUE - 1, Integer.MAX_VALUE};

    public static void main(String[] args) {
        Check check = new Check();
        for (int run = 0; run < 300; run++) {
            Random random = new Random(run);
            FilmWhole film = new FilmWhole();
            if (run % 3 != 0) {
                fill(film, random, run % 3 == 1 ? 40 : 1 + random.nextInt(40));
            }
            for (int k = 0; k < 200; k++) {
                int method = random.nextInt(20);
                int got = call(film, method, random);
                check.holds("method " + method + " answered " + got, got >= -4 && got <= 12000);
            }
        }
        check.end();
    }

    static void fill(FilmWhole film, Random random, int size) {
        for (int c = 0; c < 6; c++) {
            film.copy();
            for (int i = 0; i < size; i++) {
                film.frame(c, random.nextInt(64), random.nextInt(10), random.nextInt(2));
            }
        }
        for (int p = 0; p < size; p++) {
            film.place(random.nextInt(64), random.nextInt(6));
        }
        film.rule(0, random.nextInt(6));
    }

    private static int wild(Random random) {
        return random.nextInt(3) == 0 ? WILD[random.nextInt(WILD.length)] : random.nextInt(8) - 1;
    }

    static int call(FilmWhole film, int method, Random random) {
        int a = wild(random), b = wild(random), c = wild(random), d = wild(random);
        switch (method) {
            case 0: return film.copy();
            case 1: return film.frame(a, b, c, d);
            case 2: return film.frames(a, b, random.nextBoolean() ? random.nextLong() : random.nextLong() & 0xFDE0FDE0FDE0FDE0L);
            case 3: return film.at(a, b, c);
            case 4: return film.wear(a, b, c);
            case 5: return film.place(a, b);
            case 6: return film.noScript();
            case 7: return film.rule(a, b);
            case 8: return film.line(a, b, c);
            case 9: return film.stands(a, b);
            case 10: return film.whole(a);
            case 11: return film.about(a);
            case 12: return film.mend(a);
            case 13: return film.note(a, b, c, d);
            case 14: return film.tint(a);
            case 15: return film.cue(a, b, c);
            case 16: return film.noCues();
            case 17: return film.order(a, b);
            case 18: return film.undo();
            default: return film.count(a);
        }
    }
}
