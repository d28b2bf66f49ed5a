import java.util.Arrays;
import java.util.HashMap;
import java.util.List;
import java.util.Map;

/**
 * The Model for films of any size: from the beginning on it keeps, of all ways that go on alike, the one that is due.
 * FilmWhole goes from the end on; ModelTest holds this one against the Model that tries every way.
 */
final class LargeModel extends Model {
    private final Map<String, Lines> known = new HashMap<>();

    @Override
    Lines lines(List<int[]> one, List<int[]> two) {
        StringBuilder key = new StringBuilder();
        one.forEach(member -> key.append(member[0]).append(' '));
        key.append('|');
        two.forEach(member -> key.append(member[0]).append(' '));
        return known.computeIfAbsent(key.toString(), k -> reckon(one, two));
    }

    // Ways to (i, j) told by letters, which sort as the document prefers: a pair, b the second left, c the first left.
    private static Lines reckon(List<int[]> one, List<int[]> two) {
        int[][] cost = new int[one.size() + 1][two.size() + 1];
        String[][] way = new String[one.size() + 1][two.size() + 1];
        for (int i = 0; i <= one.size(); i++) {
            for (int j = 0; j <= two.size(); j++) {
                if (i == 0 && j == 0) way[0][0] = "";
                if (i > 0 && j > 0) {
                    int paired = cost[i - 1][j - 1] + pairCost(one.get(i - 1), two.get(j - 1));
                    keepBetter(cost, way, i, j, paired, way[i - 1][j - 1] + 'a');
                }
                if (j > 0) keepBetter(cost, way, i, j, cost[i][j - 1] + 3, way[i][j - 1] + 'b');
                if (i > 0) keepBetter(cost, way, i, j, cost[i - 1][j] + 3, way[i - 1][j] + 'c');
            }
        }
        return new Lines(cost[one.size()][two.size()], partners(one.size(), way[one.size()][two.size()]));
    }

    private static void keepBetter(int[][] cost, String[][] way, int i, int j, int newCost, String newWay) {
        boolean better = way[i][j] == null || newCost < cost[i][j]
                || newCost == cost[i][j] && newWay.compareTo(way[i][j]) < 0;
        if (better) {
            cost[i][j] = newCost;
            way[i][j] = newWay;
        }
    }

    private static int[] partners(int size, String way) {
        int[] partners = new int[size];
        int i = 0;
        int j = 0;
        for (char move : way.toCharArray()) {
            if (move != 'b') partners[i++] = move == 'a' ? j : NONE;
            if (move != 'c') j++;
        }
        return partners;
    }

    // kept[s]: of all SOURCES of the first PLACES that end with s those that are due; PRICE of what comes sees only s.
    @Override
    int[] leastSources(int places, int lost) {
        int[][] kept = {new int[0]};
        for (int p = 0; p < places; p++) {
            int[][] next = new int[lost + 1][];
            for (int s = 0; s <= lost; s++) {
                next[s] = canBe(p, s) ? bestThen(kept, s) : null;
            }
            kept = next;
        }
        return best(kept);
    }

    private int[] bestThen(int[][] kept, int s) {
        int[][] longer = new int[kept.length][];
        for (int k = 0; k < kept.length; k++) {
            if (kept[k] != null) {
                longer[k] = Arrays.copyOf(kept[k], kept[k].length + 1);
                longer[k][kept[k].length] = s;
            }
        }
        return best(longer);
    }

    private int[] best(int[][] all) {
        int[] best = null;
        int least = Integer.MAX_VALUE;
        for (int[] of : all) {
            if (of == null) continue;
            int price = priceOf(of);
            if (price < least || price == least && Arrays.compare(of, best) < 0) {
                least = price;
                best = of;
            }
        }
        return best;
    }
}
