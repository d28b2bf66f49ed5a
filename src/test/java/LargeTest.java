import java.util.Random;

/**
 * Films too large for the Model to try every way: what is answered is one of the least COST or PRICE, reckoned from the
 * other end than FilmWhole does, and agrees with itself. Each object is asked fewer than 512 times.
 */
public final class LargeTest extends Films {
    private static final int RUNS = 120;

    private final Random random;
    private final int[][][] copies = new int[6][][];
    private final int[][] places;
    private final int near;
    private final int lost;
    private final int change;
    private final int mix;

    private LargeTest(int run) {
        random = new Random(run);
        int most = run % 2 == 0 ? 40 : 1 + random.nextInt(40);
        int spread = 2 + random.nextInt(62);
        for (int c = 0; c < 6; c++) {
            copies[c] = new int[run % 2 == 0 ? 40 : random.nextInt(most + 1)][];
            for (int i = 0; i < copies[c].length; i++) {
                copies[c][i] = f(markNear(i, spread), random.nextInt(10), random.nextInt(8) == 0 ? 1 : 0);
            }
        }
        places = new int[most][];
        for (int p = 0; p < most; p++) {
            places[p] = new int[] {markNear(p, spread), p * 6 / most};
        }
        near = random.nextInt(6);
        lost = random.nextInt(2) == 0 ? 20 : random.nextInt(101);
        change = random.nextInt(2) == 0 ? 4 : random.nextInt(11);
        mix = random.nextInt(2) == 0 ? 30 : random.nextInt(11);
    }

    public static void main(String[] args) {
        for (int run = 0; run < RUNS; run++) {
            LargeTest test = new LargeTest(run);
            test.checkLine(run % 7 - 1, run / 7 % 7 - 1);
            test.checkWhole();
        }
        CHECK.end();
    }

    // Mostly in order, as a film is, so that rows do line up.
    private int markNear(int i, int spread) {
        return random.nextInt(6) == 0 ? random.nextInt(64) : (i * spread / 40 + random.nextInt(2)) % 64;
    }

    private FilmWhole made() {
        FilmWhole x = new FilmWhole();
        for (int[][] copy : copies) {
            int c = x.copy();
            for (int i = 0; i < copy.length; i += 4) {
                long told = 0;
                int n = Math.min(4, copy.length - i);
                for (int k = i; k < i + n; k++) {
                    told = told << 16 | bits(copy[k][0], copy[k][1], copy[k][2]);
                }
                due("frames", i + n, x.frames(c, n, told));
            }
        }
        for (int[] place : places) {
            x.place(place[0], place[1]);
        }
        x.rule(0, near);
        x.rule(1, lost);
        x.rule(2, change);
        x.rule(3, mix);
        return x;
    }

    private int[][] row(int r) {
        return r == -1 ? places : copies[r];
    }

    private static int pairCost(int[] a, int[] b) {
        int far = a[0] < b[0] ? b[0] - a[0] : a[0] - b[0];
        return far > 5 ? 5 : far;
    }

    /** The least COST of the first i members with the first j. */
    private static int[][] costs(int[][] one, int[][] two) {
        int[][] cost = new int[one.length + 1][two.length + 1];
        for (int i = 0; i <= one.length; i++) {
            for (int j = 0; j <= two.length; j++) {
                int best = i == 0 && j == 0 ? 0 : Integer.MAX_VALUE;
                best = i > 0 ? Math.min(best, cost[i - 1][j] + 3) : best;
                best = j > 0 ? Math.min(best, cost[i][j - 1] + 3) : best;
                best = i > 0 && j > 0 ? Math.min(best, cost[i - 1][j - 1] + pairCost(one[i - 1], two[j - 1])) : best;
                cost[i][j] = best;
            }
        }
        return cost;
    }

    private void checkLine(int first, int second) {
        FilmWhole x = made();
        int[][] one = row(first);
        int[][] two = row(second);
        int least = costs(one, two)[one.length][two.length];
        due("line(" + first + ", " + second + ", -1)", least, x.line(first, second, -1));
        int cost = 0;
        int pairs = 0;
        int last = -1;
        for (int i = 0; i < one.length; i++) {
            int j = x.line(first, second, i);
            if (j == NONE) {
                cost += 3;
                continue;
            }
            CHECK.holds("pairs do not cross: " + last + " then " + j, j > last && j < two.length);
            last = j;
            pairs++;
            cost += j >= 0 && j < two.length ? pairCost(one[i], two[j]) : 0;
        }
        due("the COST of these pairs", least, cost + 3 * (two.length - pairs));
    }

    private int[] standing(FilmWhole x, int p) {
        int[] frames = new int[6];
        for (int c = 0; c < 6; c++) {
            frames[c] = x.stands(c, p);
            if (frames[c] != NONE) {
                int far = copies[c][frames[c]][0] - places[p][0];
                CHECK.holds("near enough: " + far, far <= near && -far <= near);
            }
        }
        return frames;
    }

    private int[] frameOf(int[][] standing, int p, int source) {
        return source == NONE || standing[p][source] == NONE ? null : copies[source][standing[p][source]];
    }

    private int joinPrice(int[][] standing, int p, int ahead, int source) {
        int[] one = frameOf(standing, p - 1, ahead);
        int[] two = frameOf(standing, p, source);
        if (one == null || two == null || places[p - 1][1] != places[p][1]) {
            return 0;
        }
        return (ahead != source ? change : 0) + (one[2] != two[2] ? mix : 0);
    }

    private static int source(int s) {
        return s == 6 ? NONE : s;
    }

    private int leastPrice(int[][] standing) {
        int[] price = new int[7];
        for (int p = 0; p < places.length; p++) {
            int[] next = new int[7];
            for (int s = 0; s < 7; s++) {
                int[] frame = frameOf(standing, p, source(s));
                int best = p == 0 ? 0 : 1000000;
                for (int a = 0; a < 7 && p > 0; a++) {
                    best = Math.min(best, price[a] + joinPrice(standing, p, source(a), source(s)));
                }
                next[s] = s == 6 ? best + lost : frame == null ? 1000000 : best + frame[1];
            }
            price = next;
        }
        int best = price[6];
        for (int s = 0; s < 6; s++) {
            best = Math.min(best, price[s]);
        }
        return best;
    }

    private void checkWhole() {
        FilmWhole x = made();
        int[][] standing = new int[places.length][];
        int[] sources = new int[places.length];
        int sum = 0;
        int lostOnes = 0;
        int changes = 0;
        int mixes = 0;
        for (int p = 0; p < places.length; p++) {
            standing[p] = standing(x, p);
            sources[p] = x.whole(p);
            int[] frame = frameOf(standing, p, sources[p]);
            CHECK.holds("a COPY whose FRAME stands, or LOST", frame != null || sources[p] == NONE);
            int[] ahead = p == 0 || places[p - 1][1] != places[p][1] ? null : frameOf(standing, p - 1, sources[p - 1]);
            sum += frame == null ? lost : frame[1];
            sum += p == 0 ? 0 : joinPrice(standing, p, sources[p - 1], sources[p]);
            lostOnes += frame == null ? 1 : 0;
            changes += frame != null && ahead != null && sources[p - 1] != sources[p] ? 1 : 0;
            mixes += frame != null && ahead != null && ahead[2] != frame[2] ? 1 : 0;
        }
        due("whole(-1)", leastPrice(standing), x.whole(-1));
        due("the PRICE of these SOURCES", leastPrice(standing), sum);
        due("about(0)", lostOnes, x.about(0));
        due("about(1)", changes, x.about(1));
        due("about(2)", mixes, x.about(2));
    }
}
