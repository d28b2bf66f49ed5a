import java.util.ArrayList;
import java.util.List;

/**
 * The document's words taken literally: every way is tried and the one that is due is kept.
 * Slow, and for small films alone; it shares no code and no way of working with FilmWhole.
 */
class Model {
    static final int BAD = -1, NO = -2, FULL = -3, NONE = -4;

    private final List<List<int[]>> copies = new ArrayList<>();
    private final List<int[]> script = new ArrayList<>();
    private final int[] rules = {0, 20, 4, 30};
    private final List<int[]> notes = new ArrayList<>();
    private final List<int[]> cues = new ArrayList<>();
    private final List<int[]> steps = new ArrayList<>();

    private static boolean in(int v, int low, int high) {
        return low <= v && v <= high;
    }

    private boolean noFrame(int copy, int i) {
        return !in(copy, 0, copies.size() - 1) || !in(i, 0, copies.get(copy).size() - 1);
    }

    int copy() {
        if (copies.size() == 6) return FULL;
        copies.add(new ArrayList<>());
        return copies.size() - 1;
    }

    int frame(int copy, int mark, int wear, int camera) {
        if (!in(copy, 0, copies.size() - 1) || !in(mark, 0, 63) || !in(wear, 0, 9) || !in(camera, 0, 1)) return BAD;
        if (copies.get(copy).size() == 40) return FULL;
        copies.get(copy).add(new int[] {mark, wear, camera});
        return copies.get(copy).size();
    }

    int frames(int copy, int n, long v) {
        if (!in(copy, 0, copies.size() - 1) || !in(n, 1, 4)) return BAD;
        String bits = "0".repeat(Long.numberOfLeadingZeros(v)) + (v == 0 ? "" : Long.toBinaryString(v));
        List<int[]> told = new ArrayList<>();
        for (int at = 64 - 16 * n; at < 64; at += 16) {
            int wear = Integer.parseInt(bits.substring(at + 6, at + 10), 2);
            if (wear > 9 || bits.substring(at + 11, at + 16).contains("1")) return BAD;
            told.add(new int[] {Integer.parseInt(bits.substring(at, at + 6), 2), wear, bits.charAt(at + 10) - '0'});
        }
        if (copies.get(copy).size() + n > 40) return FULL;
        copies.get(copy).addAll(told);
        return copies.get(copy).size();
    }

    int at(int copy, int i, int what) {
        return noFrame(copy, i) || !in(what, 0, 2) ? BAD : copies.get(copy).get(i)[what];
    }

    private int setWear(int copy, int i, int v) {
        int[] frame = copies.get(copy).get(i);
        int was = frame[1];
        steps.add(new int[] {copy, i, was});
        if (steps.size() > 30) steps.remove(0);
        frame[1] = v;
        return was;
    }

    int wear(int copy, int i, int v) {
        return noFrame(copy, i) || !in(v, 0, 9) ? BAD : setWear(copy, i, v);
    }

    int place(int mark, int shot) {
        if (!in(mark, 0, 63) || !in(shot, 0, 5)) return BAD;
        if (script.size() == 40) return FULL;
        script.add(new int[] {mark, shot});
        return script.size();
    }

    int noScript() {
        int was = script.size();
        script.clear();
        return was;
    }

    int rule(int what, int v) {
        if (!in(what, 0, 3) || !in(v, 0, what == 0 ? 5 : 100)) return BAD;
        int was = rules[what];
        rules[what] = v;
        return was;
    }

    /** LINING UP: its COST, and for each member of the first row that of the second, or NONE. */
    record Lines(int cost, int[] partners) {
    }

    Lines lines(List<int[]> one, List<int[]> two) {
        Walk walk = new Walk(one, two);
        walk.on(0, 0, 0);
        return new Lines(walk.least, walk.best);
    }

    static int pairCost(int[] member, int[] other) {
        return Math.min(5, Math.abs(member[0] - other[0]));
    }

    // Tries every lining up, in the order in which the document prefers them; the first of least COST stays.
    private static final class Walk {
        final List<int[]> one;
        final List<int[]> two;
        final int[] partner;
        int least = Integer.MAX_VALUE;
        int[] best;

        Walk(List<int[]> one, List<int[]> two) {
            this.one = one;
            this.two = two;
            partner = new int[one.size()];
        }

        void on(int i, int j, int cost) {
            if (i == one.size() && j == two.size()) {
                if (cost < least) {
                    least = cost;
                    best = partner.clone();
                }
                return;
            }
            if (i < one.size() && j < two.size()) {
                partner[i] = j;
                on(i + 1, j + 1, cost + pairCost(one.get(i), two.get(j)));
            }
            if (j < two.size()) on(i, j + 1, cost + 3);
            if (i < one.size()) {
                partner[i] = NONE;
                on(i + 1, j, cost + 3);
            }
        }
    }

    private List<int[]> row(int r) {
        return r == -1 ? script : copies.get(r);
    }

    int line(int one, int two, int i) {
        if (!in(one, -1, copies.size() - 1) || !in(two, -1, copies.size() - 1)) return BAD;
        if (!in(i, -1, row(one).size() - 1)) return BAD;
        Lines lines = lines(row(one), row(two));
        return i == -1 ? lines.cost : lines.partners[i];
    }

    int stands(int copy, int place) {
        if (!in(copy, 0, copies.size() - 1) || !in(place, 0, script.size() - 1)) return BAD;
        return standing(copy)[place];
    }

    private int[] standing(int copy) {
        int[] frames = lines(script, copies.get(copy)).partners.clone();
        for (int p = 0; p < frames.length; p++) {
            if (frames[p] == NONE) continue;
            int far = Math.abs(script.get(p)[0] - copies.get(copy).get(frames[p])[0]);
            frames[p] = far <= rules[0] ? frames[p] : NONE;
        }
        return frames;
    }

    // The FRAME of each COPY that STANDS for each PLACE, or NONE.
    private int[][] standing;
    // THE WHOLE; LOST is copies.size() here, above all.
    private int[] sources;

    private void makeWhole() {
        standing = new int[copies.size()][];
        for (int c = 0; c < copies.size(); c++) standing[c] = standing(c);
        sources = leastSources(script.size(), copies.size());
    }

    int[] leastSources(int places, int lost) {
        return leastOf(new int[places], 0, lost, null);
    }

    // Tried from the lowest on, so the first of least PRICE stays.
    private int[] leastOf(int[] tried, int p, int lost, int[] best) {
        if (p == tried.length) return best == null || priceOf(tried) < priceOf(best) ? tried.clone() : best;
        int[] least = best;
        for (int s = 0; s <= lost; s++) {
            if (!canBe(p, s)) continue;
            tried[p] = s;
            least = leastOf(tried, p + 1, lost, least);
        }
        return least;
    }

    boolean canBe(int p, int source) {
        return source == copies.size() || standing[source][p] != NONE;
    }

    private int[] frameAt(int[] of, int p) {
        return of[p] == copies.size() ? null : copies.get(of[p]).get(standing[of[p]][p]);
    }

    private boolean joined(int[] of, int p) {
        return p > 0 && script.get(p)[1] == script.get(p - 1)[1] && frameAt(of, p) != null && frameAt(of, p - 1) != null;
    }

    /** The PRICE of SOURCES of as many of the first PLACES as are told. */
    final int priceOf(int[] of) {
        int sum = 0;
        for (int p = 0; p < of.length; p++) {
            int[] frame = frameAt(of, p);
            sum += frame == null ? rules[1] : frame[1];
            if (joined(of, p) && of[p] != of[p - 1]) sum += rules[2];
            if (joined(of, p) && frame[2] != frameAt(of, p - 1)[2]) sum += rules[3];
        }
        return sum;
    }

    int whole(int i) {
        if (!in(i, -1, script.size() - 1)) return BAD;
        makeWhole();
        if (i == -1) return priceOf(sources);
        return sources[i] == copies.size() ? NONE : sources[i];
    }

    int about(int what) {
        if (!in(what, 0, 2)) return BAD;
        makeWhole();
        int lost = 0, changes = 0, mixes = 0;
        for (int p = 0; p < script.size(); p++) {
            if (frameAt(sources, p) == null) lost++;
            if (joined(sources, p) && sources[p] != sources[p - 1]) changes++;
            if (joined(sources, p) && frameAt(sources, p)[2] != frameAt(sources, p - 1)[2]) mixes++;
        }
        return what == 0 ? lost : what == 1 ? changes : mixes;
    }

    int mend(int place) {
        if (!in(place, 0, script.size() - 1)) return BAD;
        makeWhole();
        if (place == 0 || place == script.size() - 1) return NO;
        if (!joined(sources, place) || !joined(sources, place + 1)) return NO;
        if (sources[place - 1] != sources[place] || sources[place + 1] != sources[place]) return NO;
        int a = frameAt(sources, place - 1)[1], b = frameAt(sources, place + 1)[1];
        if (a >= frameAt(sources, place)[1] || b >= frameAt(sources, place)[1]) return NO;
        setWear(sources[place], standing[sources[place]][place], Math.max(a, b));
        return Math.max(a, b);
    }

    int note(int copy, int a, int b, int tint) {
        if (noFrame(copy, a) || noFrame(copy, b) || b < a || !in(tint, 1, 9)) return BAD;
        if (notes.size() == 12) return FULL;
        notes.add(new int[] {copy, a, b, tint});
        return notes.size();
    }

    private int noted(int copy, int frame) {
        int found = 0;
        for (int[] n : notes) {
            if (n[0] == copy && in(frame, n[1], n[2])) found = n[3];
        }
        return found;
    }

    int tint(int place) {
        if (!in(place, 0, script.size() - 1)) return BAD;
        makeWhole();
        int s = sources[place];
        if (s < copies.size() && noted(s, standing[s][place]) != 0) return noted(s, standing[s][place]);
        for (int wear = 0; wear <= 9; wear++) {
            for (int c = 0; c < copies.size(); c++) {
                int i = standing[c][place];
                if (i != NONE && copies.get(c).get(i)[1] == wear && noted(c, i) != 0) return noted(c, i);
            }
        }
        return 0;
    }

    int cue(int a, int b, int weight) {
        if (!in(a, 0, 5) || !in(b, 0, 5) || a == b || !in(weight, 1, 100)) return BAD;
        if (cues.size() == 20) return FULL;
        cues.add(new int[] {a, b, weight});
        return cues.size();
    }

    int noCues() {
        int was = cues.size();
        cues.clear();
        return was;
    }

    private int quarrel(List<Integer> order) {
        int sum = 0;
        for (int[] c : cues) {
            boolean both = order.contains(c[0]) && order.contains(c[1]);
            if (both && order.indexOf(c[0]) > order.indexOf(c[1])) sum += c[2];
        }
        return sum;
    }

    private static void allOrders(int n, List<Integer> begun, List<List<Integer>> all) {
        if (begun.size() == n) all.add(new ArrayList<>(begun));
        for (int s = 0; s < n; s++) {
            if (begun.contains(s)) continue;
            begun.add(s);
            allOrders(n, begun, all);
            begun.remove(begun.size() - 1);
        }
    }

    int order(int n, int i) {
        if (!in(n, 2, 6) || i < -2) return BAD;
        if (i >= n) return NONE;
        List<List<Integer>> all = new ArrayList<>();
        allOrders(n, new ArrayList<>(), all);
        int least = Integer.MAX_VALUE, rivals = 0;
        List<Integer> best = null;
        for (List<Integer> order : all) {
            int q = quarrel(order);
            if (q < least) {
                least = q;
                rivals = 0;
                best = order;
            }
            if (q == least) rivals++;
        }
        return i == -2 ? rivals : i == -1 ? least : best.get(i);
    }

    int undo() {
        if (steps.isEmpty()) return NO;
        int[] step = steps.remove(steps.size() - 1);
        copies.get(step[0]).get(step[1])[1] = step[2];
        return step[0] * 100 + step[1];
    }

    int count(int what) {
        int[] all = {copies.size(), script.size(), notes.size(), cues.size(), steps.size()};
        return in(what, 0, 4) ? all[what] : BAD;
    }
}
