/** The edges of promises 50, 51, 53 and 54 and of Term V, a method for each sentence. */
public final class EdgesWalksTest {
    private static final Check CHECK = new Check();
    private static final Twins RICH = new Twins(CHECK, Twins::rich);
    private static final Twins NONE = new Twins(CHECK, Twins::withoutSchool);

    public static void main(String[] args) {
        walkRefused();
        walkOfNone();
        walkOfTheGreatest();
        walkStays();
        walkByTheSlatesThereAre();
        walkByNumber();
        walkNumbersAside();
        seenCountsUnlikeOnes();
        imageRefused();
        imageKeeps();
        backRefused();
        backTwice();
        imageOfNoSchool();
        CHECK.finish();
    }

    private static void due(String call, long got, long want) {
        CHECK.due(call, got, want);
    }

    private static void walkRefused() {
        int[][] wrong = {{-1, 5}, {Integer.MIN_VALUE, 5}, {2000000001, 5}, {Integer.MAX_VALUE, 5}, {5, -1},
            {5, Integer.MIN_VALUE}, {5, 201}, {5, Integer.MAX_VALUE}, {-1, -1}, {2000000001, 201}};
        for (int[] w : wrong) {
            RICH.stay("walk(" + w[0] + ", " + w[1] + ")", -2, x -> x.walk(w[0], w[1]));
            RICH.stay("seen(" + w[0] + ", " + w[1] + ")", -2, x -> x.seen(w[0], w[1]));
        }
        NONE.stay("walk without SCHOOL", -2, x -> x.walk(0, 0));
        NONE.stay("seen without SCHOOL", -2, x -> x.seen(0, 0));
    }

    private static void walkOfNone() {
        for (int seed : new int[] {0, 1, 2000000000}) {
            RICH.stay("walk(" + seed + ", 0)", 14, x -> x.walk(seed, 0));
            RICH.stay("seen(" + seed + ", 0)", 1, x -> x.seen(seed, 0));
        }
    }

    /** Of two nums with two slates there are two choices each time, which a draw's lowest bit tells. */
    private static void walkOfTheGreatest() {
        SlatePlay x = Told.school("slates 2;num 1;num 2;");
        for (int seed : new int[] {0, 1, 1999999999, 2000000000}) {
            long drawn = seed;
            int position = 0;
            int met = 1;
            for (int n = 1; n <= 200; n++) {
                drawn = (drawn * 1103515245L + 12345L) & 0x7fffffffL;
                position ^= 1 << (int) (drawn >> 16 & 1);
                met |= 1 << position;
                due("walk(" + seed + ", " + n + ")", x.walk(seed, n), position);
                due("seen(" + seed + ", " + n + ")", x.seen(seed, n), Integer.bitCount(met));
            }
        }
        due("nothing but thought", x.stands(0), 0);
    }

    private static void walkStays() {
        SlatePlay alone = Told.school("slates 1;");
        due("without SUMS", alone.walk(7, 200), 0);
        due("without SUMS, one", alone.walk(7, 1), 0);
        due("seen without SUMS, one", alone.seen(7, 1), 1);
        due("seen without SUMS", alone.seen(7, 200), 1);
        SlatePlay stuck = Told.standing("slates 2;num 1;add 0 0;", 0, 1);
        stuck.lose(0);
        due("1 alone on the last slate", stuck.walk(7, 200), 2);
        due("seen of it", stuck.seen(7, 200), 1);
    }

    private static void walkByTheSlatesThereAre() {
        SlatePlay x = Told.standing("slates 2;num 1;add 0 0;", 0, 1);
        x.lose(0);
        x.lend(1);
        due("with one lent, 0 is written", x.walk(7, 1), 3);
        x.give(1);
        due("given back, one stays", x.walk(7, 1), 2);
        SlatePlay y = Told.school("slates 1;num 1;num 2;num 3;");
        for (int n = 0; n <= 50; n++) {
            due("never two on one slate at " + n, Integer.bitCount(y.walk(9, n)), n % 2);
        }
        // 14 SUMS on 17 slates.
        SlatePlay z = Told.school("slates 14;" + "num 5;".repeat(14));
        z.lend(3);
        for (int n = 0; n <= 50; n++) {
            due("one MOVE each at " + n, Integer.bitCount(z.walk(9, n)) % 2, n % 2);
        }
    }

    /** Seed 0 draws 0, 21468, 9988, 22117, 3498: x is 12345, 1406932606, 654583775, 1449466924, 229283573. */
    private static void walkByNumber() {
        SlatePlay x = Told.standing("slates 3;num 1;num 2;turn 0 by 1;turn 1 by 1;", 0, 1);
        // Of MOVES 0 1 2 3 and SWAPS 102 103 the 0th: 0 is wiped.
        due("the 0th of six", x.walk(0, 1), 2);
        // Of 0 1 3 103 the 21468 % 4 = 0th: 0 is written again.
        due("the 0th of four", x.walk(0, 2), 3);
        // Of 0 1 2 3 102 103 the 9988 % 6 = 4th: 0 is swapped to 2.
        due("the 4th of six, the first SWAP", x.walk(0, 3), 6);
        // Of 0 1 3 102 103 the 22117 % 5 = 2nd: 3 is written.
        due("the 2nd of five", x.walk(0, 4), 14);
        // Of 1 (0 has no slate; 2 is without 0) 3 and 102 the 3498 % 3 = 0th: 1 is wiped.
        due("the 0th of three", x.walk(0, 5), 12);
        due("seen", x.seen(0, 5), 5);
    }

    private static void walkNumbersAside() {
        SlatePlay x = Told.standing("slates 1;num 1;", 0);
        x.smudge(0, 9);
        due("a MOVE can't be", x.may(0), 0);
        due("but in a walk it can", x.walk(3, 1), 0);
    }

    private static void seenCountsUnlikeOnes() {
        SlatePlay x = Told.standing("slates 1;num 1;", 0);
        for (int n = 0; n <= 200; n++) {
            due("seen(4, " + n + ")", x.seen(4, n), n == 0 ? 1 : 2);
            due("walk(4, " + n + ")", x.walk(4, n), n % 2 == 0 ? 1 : 0);
        }
        due("seen again is the same", x.seen(4, 1), 2);
    }

    private static void imageRefused() {
        for (int k : new int[] {-1, 3, Integer.MIN_VALUE, Integer.MAX_VALUE}) {
            RICH.stay("image(" + k + ")", -2, x -> x.image(k));
            RICH.stay("back(" + k + ")", -2, x -> x.back(k));
            NONE.stay("image(" + k + ") without SCHOOL", -2, x -> x.image(k));
            NONE.stay("back(" + k + ") without SCHOOL", -2, x -> x.back(k));
        }
    }

    private static void imageKeeps() {
        for (int k = 0; k < 3; k++) {
            int of = k;
            RICH.become("image(" + k + ") and back", 0, x -> x.image(of), x -> {
                x.image(of);
                x.move(4);
                x.swap(3);
                x.smudge(2, 77);
                x.lend(1);
                x.lose(1);
                x.clear();
                return x.back(of);
            });
            String before = Whole.schoolOf(Twins.rich());
            SlatePlay x = Twins.rich();
            due("image(" + k + ")", x.image(k), 0);
            CHECK.same("image(" + k + ") changes nothing of these", Whole.schoolOf(x), before);
            x.school();
            x.back(k);
            Told.tape(x, "slates 2;num 4;");
            CHECK.same("back(" + k + ") from another SCHOOL", Whole.schoolOf(x), before);
        }
    }

    private static void backRefused() {
        RICH.stay("back(1) of nothing", -6, x -> x.back(1));
        NONE.stay("back(0) of nothing", -6, x -> x.back(0));
        NONE.stay("back(2) of nothing", -6, x -> x.back(2));
        RICH.stay("back(2) to where one is", 0, x -> x.back(2));
        SlatePlay x = Twins.rich();
        due("back(0)", x.back(0), 0);
        due("stands(0)", x.stands(0), 3);
        due("board(1)", x.board(1), 7);
        due("slates(0)", x.slates(0), 4);
        due("slates(2)", x.slates(2), 0);
        due("slates(3)", x.slates(3), 0);
        due("the TAPE stays", x.count(3), 15);
        due("the rows stay", x.count(7), 3);
        due("the FAULT stays", x.fault(0), 2);
        due("its place stays", x.fault(1), 7);
    }

    private static void backTwice() {
        RICH.become("an IMAGE is not used up", 0, x -> {
            x.back(0);
            x.move(2);
            return x.back(0);
        }, x -> x.back(0));
        RICH.become("nor the IMAGE beside it", 0, x -> x.back(0) + x.back(2), x -> 0);
        SlatePlay x = Told.standing("slates 3;num 1;num 2;", 0);
        x.image(1);
        x.move(1);
        x.image(1);
        x.clear();
        x.back(1);
        due("the latest IMAGE", x.stands(0), 3);
    }

    private static void imageOfNoSchool() {
        NONE.become("image(0) without SCHOOL", 0, x -> x.image(0), x -> {
            x.image(0);
            return x.back(0);
        });
        NONE.stay("back(1) to no SCHOOL", 0, x -> x.back(1));
        SlatePlay x = new SlatePlay();
        due("image of a new object", x.image(2), 0);
        Told.tell(x, "slates 4;num 1;");
        due("a SCHOOL", x.move(0), 1);
        due("back to none", x.back(2), 0);
        due("no SCHOOL", x.slates(0), -2);
        due("no SUM", x.value(0), -2);
        due("no LINES", x.count(2), 0);
        due("nothing STANDS", x.count(4), 0);
        due("nothing to wipe", x.clear(), 0);
    }
}
