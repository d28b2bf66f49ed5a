import java.util.Arrays;

/** A film made whole from worn copies; the document's numbered promises say what each call answers. */
public final class FilmWhole {
    public static final int BAD = -1, NO = -2, FULL = -3, NONE = -4;

    private static final int MOST_COPIES = 6;
    private static final int MOST_IN_ROW = 40;
    private static final int MOST_SHOTS = 6;
    private static final int MOST_NOTES = 12;
    private static final int MOST_CUES = 20;
    private static final int MOST_STEPS = 30;

    private static final int TOP_MARK = 63;
    private static final int TOP_WEAR = 9;
    private static final int TOP_CAMERA = 1;
    private static final int TOP_TINT = 9;
    private static final int TOP_WEIGHT = 100;
    private static final int MOST_TOLD_AT_ONCE = 4;

    private static final int SCRIPT = -1;
    private static final int UNPAIRED_COST = 3;
    private static final int TOP_PAIR_COST = 5;

    // LOST is a source above all COPIES, so that the lowest source of several is the one that is due.
    private static final int LOST = MOST_COPIES;
    // Far above every PRICE (40 PLACES of at most 300 each) and every QUARREL (20 CUES of at most 100 each).
    private static final int NEVER = 1000000;

    private static final int NEAR_RULE = 0, LOST_RULE = 1, CHANGE_RULE = 2, MIX_RULE = 3;
    private static final int[] TOP_OF_RULE = {5, 100, 100, 100};

    private final Reel[] reels = new Reel[MOST_COPIES];
    private int copies;
    private final Script script = new Script();
    private final int[] rules = {0, 20, 4, 30};
    private final Lining lining = new Lining();
    private final Sources sources;
    private final Notes notes = new Notes();
    private final Cues cues = new Cues();
    private final Steps steps = new Steps();

    public FilmWhole() {
        for (int c = 0; c < MOST_COPIES; c++) {
            reels[c] = new Reel();
        }
        sources = new Sources(script, reels, rules, lining);
    }

    public int copy() {
        if (copies >= MOST_COPIES) {
            return FULL;
        }
        copies++;
        return copies - 1;
    }

    public int frame(int copy, int mark, int wear, int camera) {
        if (!isCopy(copy) || !isWithin(mark, TOP_MARK) || !isWithin(wear, TOP_WEAR) || !isWithin(camera, TOP_CAMERA)) {
            return BAD;
        }
        Reel reel = reels[copy];
        if (!reel.hasRoomFor(1)) {
            return FULL;
        }
        reel.append(mark, wear, camera);
        return reel.size;
    }

    public int frames(int copy, int n, long v) {
        if (!isCopy(copy) || n < 1 || n > MOST_TOLD_AT_ONCE || !Told.isTold(n, v)) {
            return BAD;
        }
        Reel reel = reels[copy];
        if (!reel.hasRoomFor(n)) {
            return FULL;
        }
        for (int k = 0; k < n; k++) {
            int bits = Told.bitsOf(n, v, k);
            reel.append(Told.markIn(bits), Told.wearIn(bits), Told.cameraIn(bits));
        }
        return reel.size;
    }

    public int at(int copy, int i, int what) {
        if (!isFrame(copy, i)) {
            return BAD;
        }
        Reel reel = reels[copy];
        switch (what) {
            case 0:
                return reel.marks[i];
            case 1:
                return reel.wears[i];
            case 2:
                return reel.cameras[i];
            default:
                return BAD;
        }
    }

    public int wear(int copy, int i, int v) {
        if (!isFrame(copy, i) || !isWithin(v, TOP_WEAR)) {
            return BAD;
        }
        int before = reels[copy].wears[i];
        changeWear(copy, i, v);
        return before;
    }

    public int place(int mark, int shot) {
        if (!isWithin(mark, TOP_MARK) || !isWithin(shot, MOST_SHOTS - 1)) {
            return BAD;
        }
        if (script.size >= MOST_IN_ROW) {
            return FULL;
        }
        script.append(mark, shot);
        return script.size;
    }

    public int noScript() {
        int before = script.size;
        script.size = 0;
        return before;
    }

    public int rule(int what, int v) {
        if (!isWithin(what, MIX_RULE) || !isWithin(v, TOP_OF_RULE[what])) {
            return BAD;
        }
        int before = rules[what];
        rules[what] = v;
        return before;
    }

    public int line(int one, int two, int i) {
        if (!isRow(one) || !isRow(two) || i < -1 || i >= sizeOfRow(one)) {
            return BAD;
        }
        lining.lineUp(marksOfRow(one), sizeOfRow(one), marksOfRow(two), sizeOfRow(two));
        return i == -1 ? lining.cost() : lining.partners[i];
    }

    public int stands(int copy, int place) {
        if (!isCopy(copy) || !script.has(place)) {
            return BAD;
        }
        sources.findStanding(copy);
        return sources.standing[copy][place];
    }

    public int whole(int i) {
        if (i != -1 && !script.has(i)) {
            return BAD;
        }
        sources.choose();
        if (i == -1) {
            return sources.price;
        }
        return sources.chosen[i] == LOST ? NONE : sources.chosen[i];
    }

    public int about(int what) {
        if (!isWithin(what, 2)) {
            return BAD;
        }
        sources.choose();
        int found = 0;
        for (int p = 0; p < script.size; p++) {
            if (isCounted(what, p)) {
                found++;
            }
        }
        return found;
    }

    public int mend(int place) {
        if (!script.has(place)) {
            return BAD;
        }
        sources.choose();
        if (!sources.canBeMended(place)) {
            return NO;
        }
        int mended = Math.max(sources.wearOf(place - 1), sources.wearOf(place + 1));
        changeWear(sources.chosen[place], sources.frameOf(place), mended);
        return mended;
    }

    public int note(int copy, int a, int b, int tint) {
        if (!isFrame(copy, a) || !isFrame(copy, b) || a > b || tint < 1 || tint > TOP_TINT) {
            return BAD;
        }
        if (notes.size >= MOST_NOTES) {
            return FULL;
        }
        notes.append(copy, a, b, tint);
        return notes.size;
    }

    public int tint(int place) {
        if (!script.has(place)) {
            return BAD;
        }
        sources.choose();
        int source = sources.chosen[place];
        int own = source == LOST ? 0 : notes.tintOf(source, sources.frameOf(place));
        return own != 0 ? own : tintOfLeastWorn(place);
    }

    public int cue(int a, int b, int weight) {
        if (!isWithin(a, MOST_SHOTS - 1) || !isWithin(b, MOST_SHOTS - 1) || a == b || weight < 1 || weight > TOP_WEIGHT) {
            return BAD;
        }
        if (cues.size >= MOST_CUES) {
            return FULL;
        }
        cues.append(a, b, weight);
        return cues.size;
    }

    public int noCues() {
        int before = cues.size;
        cues.clear();
        return before;
    }

    public int order(int n, int i) {
        if (n < 2 || n > MOST_SHOTS || i < -2) {
            return BAD;
        }
        if (i >= n) {
            return NONE;
        }
        cues.findOrder(n);
        if (i == -2) {
            return cues.rivals();
        }
        return i == -1 ? cues.quarrel() : cues.ordered[i];
    }

    public int undo() {
        if (steps.size == 0) {
            return NO;
        }
        steps.size--;
        int copy = steps.copies[steps.size];
        int i = steps.frames[steps.size];
        reels[copy].wears[i] = steps.wears[steps.size];
        return copy * 100 + i;
    }

    public int count(int what) {
        switch (what) {
            case 0:
                return copies;
            case 1:
                return script.size;
            case 2:
                return notes.size;
            case 3:
                return cues.size;
            case 4:
                return steps.size;
            default:
                return BAD;
        }
    }

    private static boolean isWithin(int v, int top) {
        return v >= 0 && v <= top;
    }

    private boolean isCopy(int c) {
        return c >= 0 && c < copies;
    }

    private boolean isFrame(int c, int i) {
        return isCopy(c) && i >= 0 && i < reels[c].size;
    }

    private boolean isRow(int row) {
        return row == SCRIPT || isCopy(row);
    }

    private int sizeOfRow(int row) {
        return row == SCRIPT ? script.size : reels[row].size;
    }

    private int[] marksOfRow(int row) {
        return row == SCRIPT ? script.marks : reels[row].marks;
    }

    private void changeWear(int c, int i, int v) {
        int[] wears = reels[c].wears;
        steps.keep(c, i, wears[i]);
        wears[i] = v;
    }

    private boolean isCounted(int what, int p) {
        switch (what) {
            case 0:
                return sources.chosen[p] == LOST;
            case 1:
                return sources.changesCopy(p);
            default:
                return sources.changesCamera(p);
        }
    }

    private int tintOfLeastWorn(int p) {
        int leastWear = TOP_WEAR + 1;
        int found = 0;
        for (int c = 0; c < copies; c++) {
            int i = sources.standing[c][p];
            int noted = i == NONE ? 0 : notes.tintOf(c, i);
            if (noted != 0 && reels[c].wears[i] < leastWear) {
                leastWear = reels[c].wears[i];
                found = noted;
            }
        }
        return found;
    }

    /** Reads FRAMES told by 16 bits each; bits above those of the n FRAMES tell nothing and are not looked at. */
    private static final class Told {
        private static final int BITS = 16;

        static boolean isTold(int n, long v) {
            for (int k = 0; k < n; k++) {
                int bits = bitsOf(n, v, k);
                if ((bits & 31) != 0 || wearIn(bits) > TOP_WEAR) {
                    return false;
                }
            }
            return true;
        }

        static int bitsOf(int n, long v, int k) {
            return (int) (v >>> (BITS * (n - 1 - k))) & 0xFFFF;
        }

        static int markIn(int bits) {
            return bits >> 10;
        }

        static int wearIn(int bits) {
            return (bits >> 6) & 15;
        }

        static int cameraIn(int bits) {
            return (bits >> 5) & 1;
        }
    }

    /** A COPY: its FRAMES. */
    private static final class Reel {
        final int[] marks = new int[MOST_IN_ROW];
        final int[] wears = new int[MOST_IN_ROW];
        final int[] cameras = new int[MOST_IN_ROW];
        int size;

        boolean hasRoomFor(int n) {
            return size + n <= MOST_IN_ROW;
        }

        void append(int mark, int wear, int camera) {
            marks[size] = mark;
            wears[size] = wear;
            cameras[size] = camera;
            size++;
        }
    }

    /** THE SCRIPT: its PLACES. */
    private static final class Script {
        final int[] marks = new int[MOST_IN_ROW];
        final int[] shots = new int[MOST_IN_ROW];
        int size;

        boolean has(int p) {
            return p >= 0 && p < size;
        }

        void append(int mark, int shot) {
            marks[size] = mark;
            shots[size] = shot;
            size++;
        }
    }

    /** LINING UP of two rows of MARKS. */
    private static final class Lining {
        // least[i][j]: the least COST of what is left from i of the first row and j of the second on.
        private final int[][] least = new int[MOST_IN_ROW + 1][MOST_IN_ROW + 1];
        final int[] partners = new int[MOST_IN_ROW];

        int cost() {
            return least[0][0];
        }

        void lineUp(int[] first, int firstSize, int[] second, int secondSize) {
            fillCosts(first, firstSize, second, secondSize);
            int j = 0;
            for (int i = 0; i < firstSize; i++) {
                while (j < secondSize && !canPair(first, i, second, j) && canLeaveSecond(i, j)) {
                    j++;
                }
                partners[i] = NONE;
                if (j < secondSize && canPair(first, i, second, j)) {
                    partners[i] = j;
                    j++;
                }
            }
        }

        private void fillCosts(int[] first, int firstSize, int[] second, int secondSize) {
            for (int j = 0; j <= secondSize; j++) {
                least[firstSize][j] = UNPAIRED_COST * (secondSize - j);
            }
            for (int i = firstSize - 1; i >= 0; i--) {
                int[] here = least[i];
                int[] next = least[i + 1];
                here[secondSize] = UNPAIRED_COST * (firstSize - i);
                for (int j = secondSize - 1; j >= 0; j--) {
                    int unpaired = UNPAIRED_COST + Math.min(here[j + 1], next[j]);
                    here[j] = Math.min(unpaired, pairCost(first[i], second[j]) + next[j + 1]);
                }
            }
        }

        private boolean canPair(int[] first, int i, int[] second, int j) {
            return least[i][j] == pairCost(first[i], second[j]) + least[i + 1][j + 1];
        }

        private boolean canLeaveSecond(int i, int j) {
            return least[i][j] == UNPAIRED_COST + least[i][j + 1];
        }

        private static int pairCost(int mark, int other) {
            return Math.min(TOP_PAIR_COST, Math.abs(mark - other));
        }
    }

    /** THE WHOLE: a source for each PLACE. */
    private static final class Sources {
        private final Script script;
        private final Reel[] reels;
        private final int[] rules;
        private final Lining lining;
        // standing[c][p]: the FRAME of COPY c that STANDS for PLACE p, or NONE.
        final int[][] standing = new int[MOST_COPIES][MOST_IN_ROW];
        // least[p][s]: the least PRICE from PLACE p on, if s is its source.
        private final int[][] least = new int[MOST_IN_ROW][MOST_COPIES + 1];
        final int[] chosen = new int[MOST_IN_ROW];
        int price;

        Sources(Script script, Reel[] reels, int[] rules, Lining lining) {
            this.script = script;
            this.reels = reels;
            this.rules = rules;
            this.lining = lining;
        }

        void findStanding(int c) {
            Reel reel = reels[c];
            lining.lineUp(script.marks, script.size, reel.marks, reel.size);
            for (int p = 0; p < script.size; p++) {
                int i = lining.partners[p];
                boolean near = i != NONE && Math.abs(script.marks[p] - reel.marks[i]) <= rules[NEAR_RULE];
                standing[c][p] = near ? i : NONE;
            }
        }

        // A COPY that has not come yet has no FRAMES, so none of it STANDS and it is never chosen.
        void choose() {
            for (int c = 0; c < MOST_COPIES; c++) {
                findStanding(c);
            }
            fillPrices();
            price = 0;
            for (int p = 0; p < script.size; p++) {
                int ahead = p == 0 ? LOST : chosen[p - 1];
                chosen[p] = bestSource(p, ahead);
                price += joinPrice(p, ahead, chosen[p]) + ownPrice(p, chosen[p]);
            }
        }

        private void fillPrices() {
            for (int p = script.size - 1; p >= 0; p--) {
                for (int s = 0; s <= LOST; s++) {
                    least[p][s] = canBe(p, s) ? ownPrice(p, s) + leastBehind(p, s) : NEVER;
                }
            }
        }

        private int leastBehind(int p, int s) {
            int next = p + 1;
            if (next >= script.size) {
                return 0;
            }
            int best = bestSource(next, s);
            return joinPrice(next, s, best) + least[next][best];
        }

        // Only a strictly lower PRICE takes over, so the lowest source of several stays.
        private int bestSource(int p, int ahead) {
            int best = LOST;
            int bestPrice = NEVER;
            for (int s = 0; s <= LOST; s++) {
                if (canBe(p, s)) {
                    int found = joinPrice(p, ahead, s) + least[p][s];
                    if (found < bestPrice) {
                        bestPrice = found;
                        best = s;
                    }
                }
            }
            return best;
        }

        private boolean canBe(int p, int s) {
            return s == LOST || standing[s][p] != NONE;
        }

        private int ownPrice(int p, int s) {
            return s == LOST ? rules[LOST_RULE] : reels[s].wears[standing[s][p]];
        }

        private int joinPrice(int p, int ahead, int s) {
            if (!isJoined(p, ahead, s)) {
                return 0;
            }
            int change = ahead != s ? rules[CHANGE_RULE] : 0;
            int mix = cameraOf(p - 1, ahead) != cameraOf(p, s) ? rules[MIX_RULE] : 0;
            return change + mix;
        }

        private boolean isJoined(int p, int ahead, int s) {
            return p > 0 && ahead != LOST && s != LOST && script.shots[p - 1] == script.shots[p];
        }

        private int cameraOf(int p, int s) {
            return reels[s].cameras[standing[s][p]];
        }

        boolean changesCopy(int p) {
            return p > 0 && isJoined(p, chosen[p - 1], chosen[p]) && chosen[p - 1] != chosen[p];
        }

        boolean changesCamera(int p) {
            return p > 0 && isJoined(p, chosen[p - 1], chosen[p])
                    && cameraOf(p - 1, chosen[p - 1]) != cameraOf(p, chosen[p]);
        }

        boolean canBeMended(int p) {
            return p > 0 && p + 1 < script.size && chosen[p] != LOST && mends(p - 1, p) && mends(p + 1, p);
        }

        private boolean mends(int beside, int p) {
            return script.shots[beside] == script.shots[p] && chosen[beside] == chosen[p] && wearOf(beside) < wearOf(p);
        }

        // This and wearOf are asked only of a PLACE that is not LOST.
        int frameOf(int p) {
            return standing[chosen[p]][p];
        }

        int wearOf(int p) {
            return reels[chosen[p]].wears[frameOf(p)];
        }
    }

    /** Notes of TINTS. */
    private static final class Notes {
        private final int[] copies = new int[MOST_NOTES];
        private final int[] starts = new int[MOST_NOTES];
        private final int[] ends = new int[MOST_NOTES];
        private final int[] tints = new int[MOST_NOTES];
        int size;

        void append(int c, int a, int b, int t) {
            copies[size] = c;
            starts[size] = a;
            ends[size] = b;
            tints[size] = t;
            size++;
        }

        int tintOf(int c, int i) {
            for (int k = size - 1; k >= 0; k--) {
                if (copies[k] == c && starts[k] <= i && i <= ends[k]) {
                    return tints[k];
                }
            }
            return 0;
        }
    }

    /** CUES and THE ORDER that quarrels least with them. */
    private static final class Cues {
        private static final int MOST_SETS = 1 << MOST_SHOTS;

        // Only the sum of WEIGHTS of CUES from a to b matters: weights[a][b].
        private final int[][] weights = new int[MOST_SHOTS][MOST_SHOTS];
        // Both by the set of SHOTS that are already ordered: QUARREL that is still to come, and in how many orders.
        private final int[] least = new int[MOST_SETS];
        private final int[] ways = new int[MOST_SETS];
        final int[] ordered = new int[MOST_SHOTS];
        int size;

        void append(int a, int b, int weight) {
            weights[a][b] += weight;
            size++;
        }

        void clear() {
            for (int a = 0; a < MOST_SHOTS; a++) {
                Arrays.fill(weights[a], 0);
            }
            size = 0;
        }

        int quarrel() {
            return least[0];
        }

        int rivals() {
            return ways[0];
        }

        void findOrder(int n) {
            int all = (1 << n) - 1;
            least[all] = 0;
            ways[all] = 1;
            for (int set = all - 1; set >= 0; set--) {
                weighSet(n, set);
            }
            int set = 0;
            for (int k = 0; k < n; k++) {
                ordered[k] = lowestNext(n, set);
                set |= 1 << ordered[k];
            }
        }

        private void weighSet(int n, int set) {
            least[set] = NEVER;
            ways[set] = 0;
            for (int s = 0; s < n; s++) {
                if (!isIn(set, s)) {
                    int found = quarrelWith(n, set, s);
                    if (found < least[set]) {
                        least[set] = found;
                        ways[set] = 0;
                    }
                    if (found == least[set]) {
                        ways[set] += ways[set | 1 << s];
                    }
                }
            }
        }

        private int lowestNext(int n, int set) {
            for (int s = 0; s < n; s++) {
                if (!isIn(set, s) && quarrelWith(n, set, s) == least[set]) {
                    return s;
                }
            }
            return 0;
        }

        // s comes behind all of the set, so every CUE that has s ahead of one of them is the other way.
        private int quarrelWith(int n, int set, int s) {
            int sum = least[set | 1 << s];
            for (int t = 0; t < n; t++) {
                if (isIn(set, t)) {
                    sum += weights[s][t];
                }
            }
            return sum;
        }

        private static boolean isIn(int set, int s) {
            return (set >> s & 1) != 0;
        }
    }

    /** STEPS kept, the latest last. */
    private static final class Steps {
        final int[] copies = new int[MOST_STEPS];
        final int[] frames = new int[MOST_STEPS];
        final int[] wears = new int[MOST_STEPS];
        int size;

        void keep(int c, int i, int wearBefore) {
            if (size == MOST_STEPS) {
                dropOldest();
            }
            copies[size] = c;
            frames[size] = i;
            wears[size] = wearBefore;
            size++;
        }

        private void dropOldest() {
            size--;
            System.arraycopy(copies, 1, copies, 0, size);
            System.arraycopy(frames, 1, frames, 0, size);
            System.arraycopy(wears, 1, wears, 0, size);
        }
    }
}
