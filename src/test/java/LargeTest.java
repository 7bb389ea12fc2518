import java.util.ArrayList;
import java.util.Arrays;
import java.util.List;
import java.util.Random;

/** Promises 22 to 41, 50 and 51 on SCHOOLS of 12 to 14 SUMS drawn at random, against the plain oracle. */
public final class LargeTest {
    private static final Check CHECK = new Check();
    private static final Random RANDOM = new Random(14);
    private static final String[] SORTS = {"num", "add", "less", "times", "most", "turn", "turn"};

    private final int run;
    private final SlatePlay x = new SlatePlay();
    private final Oracle o;

    private LargeTest(int run) {
        this.run = run;
        this.o = draw(12 + run % 3);
    }

    public static void main(String[] args) {
        for (int run = 0; run < 15; run++) {
            new LargeTest(run).play();
        }
        CHECK.finish();
    }

    /** SUMS come of near ones, so that plays are long. */
    private static Oracle draw(int count) {
        List<Oracle.Sum> sums = new ArrayList<>();
        for (int v = 0; v < count; v++) {
            String sort = v == 0 ? "num" : SORTS[RANDOM.nextInt(SORTS.length)];
            int a = sort.equals("num") ? RANDOM.nextInt(Oracle.M) : near(v);
            int b = sort.equals("turn") ? 1 + RANDOM.nextInt(999) : sort.equals("num") ? -1 : near(v);
            sums.add(new Oracle.Sum(sort, a, b));
        }
        return new Oracle(3 + RANDOM.nextInt(6), sums);
    }

    private static int near(int v) {
        int least = Math.max(0, v - 4);
        return least + RANDOM.nextInt(v - least);
    }

    private void play() {
        due("school", Told.tell(x, o.text()), o.sums.size() + 1);
        for (int i = 0; i < 60; i++) {
            int v = RANDOM.nextInt(o.sums.size());
            if (RANDOM.nextInt(3) == 0) {
                due("swap " + v, x.swap(v), o.swap(v));
            } else {
                due("move " + v, x.move(v), o.move(v));
            }
        }
        for (int i = 0; i < 3; i++) {
            int set = 1 << RANDOM.nextInt(o.sums.size()) | RANDOM.nextInt(2) << RANDOM.nextInt(o.sums.size());
            ask(set, 2 + RANDOM.nextInt(7), RANDOM.nextBoolean());
        }
    }

    private void ask(int set, int s, boolean exact) {
        String of = " " + set + " " + s + " " + exact;
        due("fewest" + of, x.fewest(set, exact), o.within(set, Integer.MAX_VALUE, exact));
        int n = RANDOM.nextInt(30);
        due("within " + n + of, x.within(set, n, exact), o.within(set, n, exact));
        due("steps" + of, x.steps(set, s, exact), o.between(0, set, s, exact));
        due("go" + of, x.go(set, s, exact), o.between(o.stood(), set, s, exact));
        due("ways" + of, x.ways(set, s, exact), o.ways(set, s, exact));
        due("reach" + of, x.reach(s), o.from(o.stood(), s, p -> false).size());
        due("ever" + of, x.ever(s), o.ever(o.stood(), s));
        due("made" + of, x.made(s), o.ever(0, s));
        due("far 0" + of, x.far(s, 0), o.far(s, 0));
        due("far 1" + of, x.far(s, 1), o.far(s, 1));
        due("must" + of, x.must(set, s), o.must(set, s));
        due("worst" + of, x.worst(set), o.worst(set));
        due("lacks" + of, x.lacks(set), o.lacks(set));
        due("keep" + of, x.keep(set, s), o.kept(set, s)[0]);
        due("cost" + of, x.cost(set, s), o.kept(set, s)[1]);
        due("breaks" + of, x.breaks(set, 1), o.breaks(set, 1));
        due("groups 0" + of, x.groups(s, 0), o.groups(s, 0));
        due("groups 1" + of, x.groups(s, 1), o.groups(s, 1));
        askSeries(s);
        int seed = RANDOM.nextInt(2000000001);
        due("walk " + seed, x.walk(seed, 200), o.walked(seed, 200)[0]);
        due("seen " + seed, x.seen(seed, 200), o.walked(seed, 200)[1]);
    }

    private void askSeries(int s) {
        int[] wanted = new int[1 + RANDOM.nextInt(8)];
        long[] row = new long[wanted.length];
        for (int i = 0; i < wanted.length; i++) {
            wanted[i] = RANDOM.nextInt(o.sums.size());
            row[i] = wanted[i];
        }
        Told.row(x, 0, 0, row);
        due("series " + Arrays.toString(wanted) + " " + s, x.series(0, s), o.series(wanted, s));
    }

    private void due(String call, long got, long want) {
        CHECK.due(got == want ? call : "run " + run + " " + o.text() + " " + o.board + ": " + call, got, want);
    }
}
