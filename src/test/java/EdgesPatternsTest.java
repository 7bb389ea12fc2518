/** The edges of promises 43 to 49 and of Term IV, a method for each promise. */
public final class EdgesPatternsTest {
    private static final Check CHECK = new Check();
    private static final Twins RICH = new Twins(CHECK, Twins::rich);
    private static final Twins NONE = new Twins(CHECK, Twins::withoutSchool);
    private static final SlatePlay X = new SlatePlay();
    private static final int[] FAR = {0, -1, Integer.MIN_VALUE, Integer.MAX_VALUE};

    public static void main(String[] args) {
        refused();
        tree();
        tall();
        chain();
        middle();
        least();
        powers();
        taken();
        nothingIsChanged();
        CHECK.finish();
    }

    private static void due(String call, long got, long want) {
        CHECK.due(call, got, want);
    }

    private static void refusedOf(int first, int second) {
        String of = "(" + first + ", " + second + ")";
        RICH.stay("tree" + of, -2, x -> x.tree(first, second));
        RICH.stay("chain" + of, -2, x -> x.chain(first, second));
        RICH.stay("middle" + of, -2, x -> x.middle(first, second));
        RICH.stay("powers" + of, -2, x -> x.powers(first, second));
        RICH.stay("taken" + of, -2, x -> x.taken(first, second));
    }

    private static void refused() {
        for (int odd : FAR) {
            refusedOf(odd, 3);
            refusedOf(3, odd);
            RICH.stay("tall(" + odd + ")", -2, x -> x.tall(odd));
            RICH.stay("least(" + odd + ")", -2, x -> x.least(odd));
        }
        RICH.stay("tree(21, 3)", -2, x -> x.tree(21, 3));
        RICH.stay("tree(3, 65)", -2, x -> x.tree(3, 65));
        RICH.stay("tall(21)", -2, x -> x.tall(21));
        RICH.stay("chain(201, 3)", -2, x -> x.chain(201, 3));
        RICH.stay("chain(3, 15)", -2, x -> x.chain(3, 15));
        RICH.stay("middle(201, 3)", -2, x -> x.middle(201, 3));
        RICH.stay("middle(3, 15)", -2, x -> x.middle(3, 15));
        RICH.stay("least(201)", -2, x -> x.least(201));
        RICH.stay("powers(201, 3)", -2, x -> x.powers(201, 3));
        RICH.stay("powers(3, 1)", -2, x -> x.powers(3, 1));
        RICH.stay("powers(3, 11)", -2, x -> x.powers(3, 11));
        RICH.stay("taken(201, 3)", -2, x -> x.taken(201, 3));
        RICH.stay("taken(3, 1)", -2, x -> x.taken(3, 1));
        RICH.stay("taken(3, 11)", -2, x -> x.taken(3, 11));
    }

    private static void tree() {
        due("height 1 with 1", X.tree(1, 1), 1);
        due("height 1 with 2", X.tree(1, 2), 1);
        due("height 1 with 64", X.tree(1, 64), 1);
        due("height 2 with 1", X.tree(2, 1), -1);
        due("height 2 with 2", X.tree(2, 2), -1);
        due("height 2 with 3", X.tree(2, 3), 5);
        due("height 2 with 64", X.tree(2, 64), 5);
        // The other one away is of height 2 with s - 2 slates, so 3 of 5.
        due("height 3 with 3", X.tree(3, 3), -1);
        due("height 3 with 4", X.tree(3, 4), -1);
        due("height 3 with 5", X.tree(3, 5), 21);
        due("height 20 with 1", X.tree(20, 1), -1);
        due("height 20 with 38", X.tree(20, 38), -1);
        // All four parts of a TREE are as many, one MOVE more: (4 to the h - 1) / 3.
        long all = ((1L << 40) - 1) / 3;
        due("height 20 with 39", X.tree(20, 39), all);
        due("height 20 with 64", X.tree(20, 64), all);
    }

    private static void tall() {
        for (int h = 1; h <= 20; h++) {
            due("tall(" + h + ")", X.tall(h), 2 * h - 1);
            due("just enough for " + h, X.tree(h, 2 * h - 1), ((1L << 2 * h) - 1) / 3);
            if (h > 1) {
                due("one too few for " + h, X.tree(h, 2 * h - 2), -1);
            }
        }
    }

    private static void chain() {
        for (int s = 1; s <= 14; s++) {
            due("one with " + s, X.chain(1, s), 1);
        }
        due("two with 1", X.chain(2, 1), -1);
        due("two with 2", X.chain(2, 2), 3);
        due("three with 2", X.chain(3, 2), -1);
        due("three with 3", X.chain(3, 3), 5);
        due("four with 3", X.chain(4, 3), 9);
        due("five with 3", X.chain(5, 3), -1);
        // 4 with 4 slates, 7, then the others and 4 away with 3, 9 each.
        due("eight with 4", X.chain(8, 4), 25);
        due("nine with 4", X.chain(9, 4), -1);
        // With as many slates as SUMS all are made, and all but the last wiped.
        for (int n = 1; n <= 14; n++) {
            due(n + " with 14", X.chain(n, 14), 2 * n - 1);
            due(n + " with as many", X.chain(n, n), 2 * n - 1);
        }
        due("15 with 14", X.chain(15, 14), 2 * 15 - 1 + 2);
        due("200 with 1", X.chain(200, 1), -1);
        due("200 with 8", X.chain(200, 8), -1);
        due("200 with 9 can be", X.chain(200, 9) > 0 ? 1 : 0, 1);
        due("200 with 14 is no more", X.chain(200, 14) <= X.chain(200, 13) ? 1 : 0, 1);
        due("as the first of all calls", new SlatePlay().chain(200, 14), X.chain(200, 14));
    }

    private static void middle() {
        for (int s = 1; s <= 14; s++) {
            due("of one with " + s, X.middle(1, s), 0);
        }
        due("of two with 1", X.middle(2, 1), -1);
        due("of two with 2", X.middle(2, 2), 1);
        due("of three with 2", X.middle(3, 2), -1);
        due("of three with 3: 1 as well as 2", X.middle(3, 3), 1);
        due("of four with 3", X.middle(4, 3), 2);
        due("of five with 3", X.middle(5, 3), -1);
        due("of eight with 4", X.middle(8, 4), 4);
        due("of 14 with 14", X.middle(14, 14), 1);
        due("of 200 with 8", X.middle(200, 8), -1);
        due("of 200 with 14 as the first of all calls", new SlatePlay().middle(200, 14), X.middle(200, 14));
        for (int n = 2; n <= 200; n++) {
            int m = X.middle(n, 14);
            due("it makes the fewest of " + n, X.chain(m, 14) + X.chain(n - m, 13) + X.chain(m, 13), X.chain(n, 14));
        }
    }

    /** With s slates 2 to the s - 1 SUMS can be, and no more. */
    private static void least() {
        due("least(1)", X.least(1), 1);
        for (int s = 1; s <= 8; s++) {
            int most = 1 << s - 1;
            due("least(" + most + ")", X.least(most), s);
            if (most < 200) {
                due("least(" + (most + 1) + ")", X.least(most + 1), s + 1);
            }
        }
        due("least(200)", X.least(200), 9);
        due("least(200) as the first of all calls", new SlatePlay().least(200), 9);
    }

    private static void powers() {
        for (int k = 2; k <= 10; k++) {
            for (int n = 1; n <= k; n++) {
                due("powers(" + n + ", " + k + ") up to k", X.powers(n, k), 2 * n - 1);
            }
            // Above k: one part of k, made and taken away, and one left.
            due("powers(" + (k + 1) + ", " + k + ")", X.powers(k + 1, k), 2 * (2 * k - 1) + 1);
            // A power itself is of parts of the one below it, k of them.
            due("powers(" + k * k + ", " + k + ")", X.powers(k * k, k), (2 * k - 1) * (2 * k - 1));
            due("powers(" + (k * k + 1) + ", " + k + ")", X.powers(k * k + 1, k), 2 * (2 * k - 1) * (2 * k - 1) + 1);
        }
        due("powers(1, 2)", X.powers(1, 2), 1);
        due("powers(200, 10): one of 100, ten of 10", X.powers(200, 10), 3 * 361);
        due("powers(128, 2)", X.powers(128, 2), 2187);
        due("powers(129, 2)", X.powers(129, 2), 2 * 2187 + 1);
        due("powers(200, 2): 128, 64, 8", X.powers(200, 2), 2 * 2187 + 2 * 729 + 27);
        due("powers(64, 4)", X.powers(64, 4), 343);
        due("powers(65, 4)", X.powers(65, 4), 687);
        due("powers(125, 5)", X.powers(125, 5), 729);
        due("powers(126, 5)", X.powers(126, 5), 1459);
    }

    private static void taken() {
        for (int k = 2; k <= 10; k++) {
            for (int n = 1; n <= k; n++) {
                due("taken(" + n + ", " + k + ") up to k", X.taken(n, k), n);
            }
            due("taken(" + (k + 1) + ", " + k + ")", X.taken(k + 1, k), 2 + k - 1);
            due("taken(" + k * k + ", " + k + ")", X.taken(k * k, k), k + k - 1);
            due("taken(" + (k * k + 1) + ", " + k + ")", X.taken(k * k + 1, k), 2 + (2 * k - 1) - 1);
        }
        due("taken(200, 10): two parts, and 18 more", X.taken(200, 10), 20);
        due("taken(128, 2)", X.taken(128, 2), 8);
        due("taken(129, 2)", X.taken(129, 2), 9);
        due("taken(200, 2)", X.taken(200, 2), 9);
    }

    /** These ask of no SCHOOL, and change none. */
    private static void nothingIsChanged() {
        RICH.stay("tree(20, 64)", ((1L << 40) - 1) / 3, x -> x.tree(20, 64));
        RICH.stay("tall(20)", 39, x -> x.tall(20));
        RICH.stay("chain(8, 4)", 25, x -> x.chain(8, 4));
        RICH.stay("middle(8, 4)", 4, x -> x.middle(8, 4));
        RICH.stay("least(8)", 4, x -> x.least(8));
        RICH.stay("powers(8, 2)", 27, x -> x.powers(8, 2));
        RICH.stay("taken(8, 2)", 4, x -> x.taken(8, 2));
        NONE.stay("tree(2, 3) without SCHOOL", 5, x -> x.tree(2, 3));
        NONE.stay("chain(8, 4) without SCHOOL", 25, x -> x.chain(8, 4));
        NONE.stay("powers(8, 2) without SCHOOL", 27, x -> x.powers(8, 2));
    }
}
