import java.util.ArrayList;
import java.util.List;
import java.util.Random;

/** Promises 6 to 42 and 50 to 54 on SCHOOLS drawn at random, against the document's words worked out plainly. */
public final class OracleTest {
    private static final Check CHECK = new Check();
    private static final Random RANDOM = new Random(57);
    private static final String[] SORTS = {"num", "add", "less", "times", "most", "turn", "turn"};

    private SlatePlay x;
    private Oracle o;
    private final Oracle[] images = new Oracle[3];
    private int run;

    public static void main(String[] args) {
        OracleTest test = new OracleTest();
        for (test.run = 0; test.run < 600; test.run++) {
            test.play(test.run % 100 == 99 ? 9 : RANDOM.nextInt(7));
        }
        CHECK.finish();
    }

    private static int upTo(int n) {
        return RANDOM.nextInt(n + 1);
    }

    private static Oracle draw(int count) {
        List<Oracle.Sum> sums = new ArrayList<>();
        for (int v = 0; v < count; v++) {
            String sort = v == 0 ? "num" : SORTS[RANDOM.nextInt(SORTS.length)];
            int a = sort.equals("num") ? upTo(1000002) : RANDOM.nextInt(v);
            int b = sort.equals("turn") ? 1 + upTo(998) : sort.equals("num") ? -1 : RANDOM.nextInt(v);
            sums.add(new Oracle.Sum(sort, a, b));
        }
        return new Oracle(1 + upTo(Math.min(13, count + 1)), sums);
    }

    private void play(int count) {
        x = new SlatePlay();
        images[0] = null;
        images[1] = null;
        images[2] = null;
        tell(count);
        for (int i = 0; i < 60; i++) {
            change();
            look();
            if (i % 4 == 0) {
                ask();
            }
        }
    }

    private void tell(int count) {
        o = draw(count);
        due("school", Told.tell(x, o.text()), 1 + count);
        for (int v = -1; v <= count; v++) {
            for (int what = -1; what <= 6; what++) {
                due("sum " + v + " " + what, x.sum(v, what), o.sum(v, what));
            }
            due("value " + v, x.value(v), v < 0 || v >= count ? -2 : o.values().get(v));
        }
    }

    private void due(String call, long got, long want) {
        if (got != want) {
            call = "run " + run + " " + o.text() + " " + o.board + " of " + o.total() + ": " + call;
        }
        CHECK.due(call, got, want);
    }

    private int anySum() {
        return o.sums.isEmpty() ? 0 : RANDOM.nextInt(o.sums.size());
    }

    private void change() {
        int v = upTo(20) == 0 ? upTo(20) - 3 : anySum();
        boolean real = v >= 0 && v < o.sums.size();
        boolean on = o.board.containsKey(v);
        switch (upTo(24)) {
            case 0 -> {
                int number = upTo(1000002);
                due("smudge", x.smudge(v, number), !real ? -2 : !on ? -5 : o.board.put(v, number));
            }
            case 1 -> {
                int number = real ? o.values().get(v) : 0;
                due("mend", x.smudge(v, number), !real ? -2 : !on ? -5 : o.board.put(v, number));
            }
            case 2 -> {
                int n = upTo(5) - 1;
                boolean wrong = n < 1 || n > 3;
                due("lend", x.lend(n), wrong ? -2 : o.lent + n > 3 ? -3 : (o.lent += n));
            }
            case 3 -> {
                int n = upTo(5) - 1;
                boolean wrong = n < 1 || n > 3;
                due("give", x.give(n), wrong ? -2 : o.lent < n ? -3 : o.free() < n ? -5 : (o.lent -= n));
            }
            case 4 -> lose(v, real, on);
            case 5 -> {
                if (upTo(3) == 0) {
                    due("clear", x.clear(), o.board.size());
                    o.board.clear();
                }
            }
            case 6 -> {
                int k = upTo(4) - 1;
                due("image", x.image(k), k < 0 || k > 2 ? -2 : 0);
                if (k >= 0 && k <= 2) {
                    images[k] = o.copy();
                }
            }
            case 7 -> {
                int k = upTo(4) - 1;
                boolean wrong = k < 0 || k > 2;
                due("back", x.back(k), wrong ? -2 : images[k] == null ? -6 : 0);
                if (!wrong && images[k] != null) {
                    o = images[k].copy();
                }
            }
            case 8 -> {
                if (upTo(3) == 0) {
                    tell(RANDOM.nextInt(7));
                }
            }
            case 9, 10, 11, 12 -> due("swap " + v, x.swap(v), o.swap(v));
            default -> due("move " + v, x.move(v), o.move(v));
        }
    }

    private void lose(int v, boolean real, boolean on) {
        int want = !real ? -2 : !on ? -5 : o.total() == 1 ? -3 : o.total() - 1;
        due("lose", x.lose(v), want);
        if (want >= 0) {
            o.lost++;
            o.board.remove(v);
        }
    }

    private void look() {
        due("stands 0", x.stands(0), o.stood());
        due("stands 1", x.stands(1), o.right());
        due("stands 2", x.stands(2), o.doubted());
        due("may 0", x.may(0), o.may(0));
        due("may 1", x.may(1), o.may(1));
        due("culprits", x.culprits(), o.culprits());
        due("slates 0", x.slates(0), o.total());
        due("slates 1", x.slates(1), o.free());
        due("slates 2", x.slates(2), o.lent);
        due("slates 3", x.slates(3), o.lost);
        for (int v = 0; v < o.sums.size(); v++) {
            due("board " + v, x.board(v), o.board.getOrDefault(v, -1));
        }
    }

    private void ask() {
        int set = RANDOM.nextInt(1 << o.sums.size()) & RANDOM.nextInt(1 << o.sums.size());
        int s = 1 + upTo(Math.min(13, o.sums.size()));
        boolean exact = RANDOM.nextBoolean();
        int at = o.stood();
        String of = " " + set + " " + s + " " + exact;
        due("fewest" + of, x.fewest(set, exact), o.within(set, Integer.MAX_VALUE, exact));
        int n = upTo(12);
        due("within " + n + of, x.within(set, n, exact), o.within(set, n, exact));
        due("steps" + of, x.steps(set, s, exact), o.between(0, set, s, exact));
        due("go" + of, x.go(set, s, exact), o.between(at, set, s, exact));
        List<Integer> way = o.way(set, s, exact);
        due("next" + of, x.next(set, s, exact), way.isEmpty() ? -1 : way.get(0));
        for (int i = 0; i <= way.size(); i++) {
            due("path " + i + of, x.path(set, s, exact, i), i < way.size() ? way.get(i) : -1);
        }
        due("ways" + of, x.ways(set, s, exact), o.ways(set, s, exact));
        due("reach" + of, x.reach(s), o.from(at, s, p -> false).size());
        due("ever" + of, x.ever(s), o.ever(at, s));
        due("made" + of, x.made(s), o.ever(0, s));
        due("far 0" + of, x.far(s, 0), o.far(s, 0));
        due("far 1" + of, x.far(s, 1), o.far(s, 1));
        due("keep" + of, x.keep(set, s), o.kept(set, s)[0]);
        due("cost" + of, x.cost(set, s), o.kept(set, s)[1]);
        due("worst" + of, x.worst(set), o.worst(set));
        due("lacks" + of, x.lacks(set), o.lacks(set));
        due("must" + of, x.must(set, s), o.must(set, s));
        int to = RANDOM.nextInt(1 << o.sums.size());
        due("apart " + to + of, x.apart(set, to, s), o.between(set, to, s, true));
        due("groups 0" + of, x.groups(s, 0), o.groups(s, 0));
        due("groups 1" + of, x.groups(s, 1), o.groups(s, 1));
        for (int broken = 1; broken <= 3; broken++) {
            due("breaks " + broken + of, x.breaks(set, broken), o.breaks(set, broken));
        }
        askRows(s);
        int seed = upTo(2000000000);
        int steps = upTo(200);
        due("walk " + seed + " " + steps, x.walk(seed, steps), o.walked(seed, steps)[0]);
        due("seen " + seed + " " + steps, x.seen(seed, steps), o.walked(seed, steps)[1]);
    }

    private void askRows(int s) {
        if (!o.sums.isEmpty()) {
            int[] wanted = new int[upTo(8)];
            long[] numbers = new long[wanted.length];
            for (int i = 0; i < wanted.length; i++) {
                wanted[i] = anySum();
                numbers[i] = wanted[i];
            }
            Told.row(x, 0, upTo(3), numbers);
            due("series " + java.util.Arrays.toString(wanted) + " " + s, x.series(0, s), o.series(wanted, s));
        }
        long[] row = new long[upTo(20)];
        Oracle at = o.copy();
        for (int i = 0; i < row.length; i++) {
            row[i] = upTo(2) == 0 ? 100 + anySum() : anySum();
            for (int again = 0; again < 20 && at.copy().play(row[i]) < 0; again++) {
                row[i] = upTo(2) == 0 ? 100 + anySum() : anySum();
            }
            at.play(row[i]);
        }
        Told.row(x, 1, upTo(3), row);
        int[] judged = o.judged(row);
        String of = " " + java.util.Arrays.toString(row);
        due("judge" + of, x.judge(1), judged[0]);
        due("ends" + of, x.ends(1), judged[1]);
        due("backwards" + of, x.backwards(1), judged[2]);
    }
}
