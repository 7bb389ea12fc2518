import java.util.HashMap;
import java.util.Map;

/** Promises 43 to 49: TREES and CHAINS, each against its words worked out by plain recursion. */
public final class PatternsTest {
    private static final Check CHECK = new Check();
    private static final SlatePlay X = new SlatePlay();
    private static final Map<Integer, Long> CHAINS = new HashMap<>();
    private static final Map<Integer, Long> TREES = new HashMap<>();

    public static void main(String[] args) {
        known();
        trees();
        chains();
        chainsAreShortestPlays();
        powers();
        refused();
        CHECK.finish();
    }

    private static void known() {
        CHECK.due("tree(2, 3)", X.tree(2, 3), 5);
        CHECK.due("tree(3, 5)", X.tree(3, 5), 21);
        CHECK.due("tree(20, 64)", X.tree(20, 64), 366503875925L);
        CHECK.due("tall(20)", X.tall(20), 39);
        CHECK.due("chain(4, 3)", X.chain(4, 3), 9);
        CHECK.due("least(200)", X.least(200), 9);
        CHECK.due("powers(8, 2)", X.powers(8, 2), 27);
        CHECK.due("taken(8, 2)", X.taken(8, 2), 4);
        CHECK.due("powers(5, 2): 4 and 1", X.powers(5, 2), 9 + 1 + 9);
        CHECK.due("taken(5, 2)", X.taken(5, 2), 2 + 2);
        CHECK.due("powers(7, 3): 3, 3 and 1", X.powers(7, 3), 4 * 5 + 1);
        CHECK.due("taken(7, 3)", X.taken(7, 3), 3 + 2);
        CHECK.due("powers(9, 3): 3, 3 and 3", X.powers(9, 3), 25);
        CHECK.due("taken(9, 3)", X.taken(9, 3), 5);
        CHECK.due("powers(10, 10)", X.powers(10, 10), 19);
        CHECK.due("powers(11, 10)", X.powers(11, 10), 39);
        CHECK.due("taken(11, 10)", X.taken(11, 10), 11);
    }

    private static long treeByWords(int h, int s) {
        if (h == 1) {
            return s >= 1 ? 1 : -1;
        }
        if (s < 3) {
            return -1;
        }
        Long known = TREES.get(h * 100 + s);
        if (known != null) {
            return known;
        }
        long sum = 1;
        for (int with : new int[] {s, s - 1, s - 2, s - 1}) {
            long part = treeByWords(h - 1, with);
            sum = part < 0 || sum < 0 ? -1 : sum + part;
        }
        TREES.put(h * 100 + s, sum);
        return sum;
    }

    private static void trees() {
        for (int h = 1; h <= 20; h++) {
            int fewest = 0;
            for (int s = 64; s >= 1; s--) {
                long due = treeByWords(h, s);
                CHECK.due("tree(" + h + ", " + s + ")", X.tree(h, s), due);
                if (due >= 0) {
                    fewest = s;
                }
            }
            CHECK.due("tall(" + h + ")", X.tall(h), fewest);
        }
    }

    private static long chainByWords(int n, int s) {
        if (s < 1) {
            return -1;
        }
        if (n == 1) {
            return 1;
        }
        Long known = CHAINS.get(n * 100 + s);
        if (known != null) {
            return known;
        }
        long best = -1;
        for (int m = 1; m < n; m++) {
            long moves = chainBy(n, s, m);
            best = moves >= 0 && (best < 0 || moves < best) ? moves : best;
        }
        CHAINS.put(n * 100 + s, best);
        return best;
    }

    private static long chainBy(int n, int s, int m) {
        long made = chainByWords(m, s);
        long others = chainByWords(n - m, s - 1);
        long away = chainByWords(m, s - 1);
        return Math.min(made, Math.min(others, away)) < 0 ? -1 : made + others + away;
    }

    private static int middleByWords(int n, int s) {
        long due = chainByWords(n, s);
        if (due < 0) {
            return -1;
        }
        for (int m = 1; m < n; m++) {
            if (chainBy(n, s, m) == due) {
                return m;
            }
        }
        return 0;
    }

    private static void chains() {
        // The last first, so that an answer does not lean on calls ahead of it.
        for (int n = 200; n >= 1; n--) {
            int fewest = 0;
            for (int s = 14; s >= 1; s--) {
                SlatePlay x = n % 50 == 0 ? new SlatePlay() : X;
                CHECK.due("middle(" + n + ", " + s + ")", x.middle(n, s), middleByWords(n, s));
                CHECK.due("chain(" + n + ", " + s + ")", x.chain(n, s), chainByWords(n, s));
                if (chainByWords(n, s) >= 0) {
                    fewest = s;
                }
            }
            CHECK.due("least(" + n + ")", X.least(n), fewest);
        }
    }

    /** That CHAINS by parts are no longer than the fewest MOVES is known; it binds both ways of counting. */
    private static void chainsAreShortestPlays() {
        StringBuilder text = new StringBuilder("slates 14;num 1;");
        for (int n = 1; n <= 9; n++) {
            SlatePlay x = Told.school(text.toString());
            for (int s = 1; s <= 14; s++) {
                CHECK.due("CHAIN of " + n + " played with " + s, x.steps(1 << n - 1, s, true), X.chain(n, s));
            }
            text.append("add ").append(n - 1).append(' ').append(n - 1).append(';');
        }
    }

    private static long[] powersByWords(int n, int k) {
        if (n <= k) {
            return new long[] {n + (n - 1), n};
        }
        int p = k;
        while ((long) p * k < n) {
            p *= k;
        }
        int left = n;
        int parts = 0;
        long moves = 0;
        long[] part = powersByWords(p, k);
        while (left > p) {
            moves += part[0] + part[0];
            left -= p;
            parts++;
        }
        moves += powersByWords(left, k)[0];
        parts++;
        return new long[] {moves, parts + part[1] - 1};
    }

    private static void powers() {
        for (int k = 2; k <= 10; k++) {
            for (int n = 1; n <= 200; n++) {
                long[] due = powersByWords(n, k);
                CHECK.due("powers(" + n + ", " + k + ")", X.powers(n, k), due[0]);
                CHECK.due("taken(" + n + ", " + k + ")", X.taken(n, k), due[1]);
            }
        }
    }

    private static void refused() {
        int[][] wrong = {{0, 1}, {-1, 1}, {201, 1}, {1, 0}, {1, -1}, {1, 65},
            {Integer.MAX_VALUE, 2}, {2, Integer.MAX_VALUE}, {Integer.MIN_VALUE, 2}, {2, Integer.MIN_VALUE}};
        for (int[] w : wrong) {
            String of = "(" + w[0] + ", " + w[1] + ")";
            CHECK.due("tree" + of, X.tree(w[0], w[1]), -2);
            CHECK.due("chain" + of, X.chain(w[0], w[1]), -2);
            CHECK.due("middle" + of, X.middle(w[0], w[1]), -2);
            CHECK.due("powers" + of, X.powers(w[0], w[1]), -2);
            CHECK.due("taken" + of, X.taken(w[0], w[1]), -2);
        }
        CHECK.due("tree(21, 64)", X.tree(21, 64), -2);
        CHECK.due("tall(21)", X.tall(21), -2);
        CHECK.due("tall(0)", X.tall(0), -2);
        CHECK.due("chain(1, 15)", X.chain(1, 15), -2);
        CHECK.due("least(0)", X.least(0), -2);
        CHECK.due("least(201)", X.least(201), -2);
        CHECK.due("powers(5, 1)", X.powers(5, 1), -2);
        CHECK.due("powers(5, 11)", X.powers(5, 11), -2);
        CHECK.due("taken(5, 11)", X.taken(5, 11), -2);
    }
}
