import java.util.ArrayDeque;
import java.util.ArrayList;
import java.util.Deque;
import java.util.HashMap;
import java.util.HashSet;
import java.util.List;
import java.util.Map;
import java.util.Set;
import java.util.TreeMap;
import java.util.TreeSet;
import java.util.function.IntPredicate;

/** The document's words once more, as plainly as can be: sets, maps and a search from each place anew. */
final class Oracle {
    static final int M = 1000003;

    record Sum(String sort, int a, int b) {
        List<Integer> from() {
            return switch (sort) {
                case "num" -> List.of();
                case "turn" -> List.of(a);
                default -> List.of(a, b);
            };
        }

        int worked(Map<Integer, Integer> by) {
            return switch (sort) {
                case "num" -> a;
                case "add" -> (by.get(a) + by.get(b)) % M;
                case "less" -> (by.get(a) - by.get(b) + M) % M;
                case "times" -> (int) ((long) by.get(a) * by.get(b) % M);
                case "most" -> Math.max(by.get(a), by.get(b));
                default -> (by.get(a) + b) % M;
            };
        }
    }

    final List<Sum> sums;
    final int told;
    int lent = 0;
    int lost = 0;
    Map<Integer, Integer> board = new TreeMap<>();

    Oracle(int told, List<Sum> sums) {
        this.told = told;
        this.sums = sums;
    }

    Oracle copy() {
        Oracle o = new Oracle(told, sums);
        o.lent = lent;
        o.lost = lost;
        o.board = new TreeMap<>(board);
        return o;
    }

    String text() {
        StringBuilder text = new StringBuilder("slates " + told + ";");
        for (Sum s : sums) {
            text.append(switch (s.sort) {
                case "num" -> "num " + s.a;
                case "turn" -> "turn " + s.a + " by " + s.b;
                default -> s.sort + " " + s.a + " " + s.b;
            }).append(";");
        }
        return text.toString();
    }

    // SUMS

    Map<Integer, Integer> values() {
        Map<Integer, Integer> values = new HashMap<>();
        for (int v = 0; v < sums.size(); v++) {
            values.put(v, sums.get(v).worked(values));
        }
        return values;
    }

    Set<Integer> origins(int v) {
        Set<Integer> all = new TreeSet<>();
        for (int u : sums.get(v).from()) {
            all.add(u);
            all.addAll(origins(u));
        }
        return all;
    }

    int depth(int v) {
        int depth = 0;
        for (int u : sums.get(v).from()) {
            depth = Math.max(depth, depth(u) + 1);
        }
        return depth;
    }

    int sum(int v, int what) {
        if (v < 0 || v >= sums.size() || what < 0 || what > 5) {
            return -2;
        }
        Sum s = sums.get(v);
        return switch (what) {
            case 0 -> List.of("num", "add", "less", "times", "most", "turn").indexOf(s.sort);
            case 1 -> s.a;
            case 2 -> s.sort.equals("num") ? -1 : s.b;
            case 3 -> origins(v).size();
            case 4 -> (int) java.util.stream.IntStream.range(0, sums.size())
                    .filter(u -> origins(u).contains(v)).count();
            default -> depth(v);
        };
    }

    // What STANDS

    int total() {
        return told + lent - lost;
    }

    int free() {
        return total() - board.size();
    }

    static int bits(Iterable<Integer> set) {
        int bits = 0;
        for (int v : set) {
            bits |= 1 << v;
        }
        return bits;
    }

    int stood() {
        return bits(board.keySet());
    }

    boolean ready(int v) {
        return board.keySet().containsAll(sums.get(v).from());
    }

    int right() {
        Map<Integer, Integer> values = values();
        return pick(v -> board.containsKey(v) && board.get(v).equals(values.get(v)));
    }

    int doubted() {
        return pick(v -> board.containsKey(v) && ready(v) && board.get(v) != sums.get(v).worked(board));
    }

    private int pick(IntPredicate wanted) {
        int bits = 0;
        for (int v = 0; v < sums.size(); v++) {
            bits |= wanted.test(v) ? 1 << v : 0;
        }
        return bits;
    }

    int culprits() {
        return pick(v -> {
            if (!board.containsKey(v)) {
                return false;
            }
            Oracle o = copy();
            o.board.put(v, values().get(v));
            return o.doubted() == 0;
        });
    }

    int move(int v) {
        if (v < 0 || v >= sums.size()) {
            return -2;
        }
        if (!ready(v)) {
            return -5;
        }
        int number = sums.get(v).worked(board);
        if (!board.containsKey(v)) {
            if (free() == 0) {
                return -3;
            }
            board.put(v, number);
            return 1;
        }
        if (board.get(v) != number) {
            return -6;
        }
        board.remove(v);
        return 0;
    }

    int swap(int v) {
        if (v < 0 || v >= sums.size() || !sums.get(v).sort.equals("turn")) {
            return -2;
        }
        Sum t = sums.get(v);
        boolean turn = board.containsKey(v);
        boolean from = board.containsKey(t.a);
        if (turn && !from) {
            int number = board.remove(v);
            board.put(t.a, number >= t.b ? number - t.b : number - t.b + M);
            return 0;
        }
        if (from && !turn) {
            int number = board.remove(t.a) + t.b;
            board.put(v, number >= M ? number - M : number);
            return 1;
        }
        return -5;
    }

    int may(int what) {
        return pick(v -> what == 0 ? copy().move(v) >= 0 : copy().swap(v) >= 0);
    }

    int play(long number) {
        if (number >= 0 && number < 14) {
            return move((int) number);
        }
        return number >= 100 && number < 114 ? swap((int) number - 100) : -2;
    }

    int[] judged(long[] row) {
        Oracle o = copy();
        int n = 0;
        while (n < row.length && o.play(row[n]) >= 0) {
            n++;
        }
        int ends = o.stood();
        boolean same = n == row.length;
        for (int i = n - 1; i >= 0 && same; i--) {
            same = o.play(row[i]) >= 0;
        }
        return new int[] {n, ends, same && o.board.equals(board) ? 1 : 0};
    }

    // POSITIONS

    /** By number: where each MOVE and SWAP leads from a POSITION. */
    TreeMap<Integer, Integer> choices(int p, int s) {
        TreeMap<Integer, Integer> to = new TreeMap<>();
        for (int v = 0; v < sums.size(); v++) {
            boolean all = true;
            for (int u : sums.get(v).from()) {
                all &= (p >> u & 1) == 1;
            }
            int other = p ^ (1 << v);
            if (all && Integer.bitCount(other) <= s) {
                to.put(v, other);
            }
            if (sums.get(v).sort.equals("turn")) {
                int a = sums.get(v).a;
                boolean turn = (p >> v & 1) == 1;
                boolean from = (p >> a & 1) == 1;
                if (turn && !from || from && !turn) {
                    to.put(100 + v, p - (turn ? 1 << v : 1 << a) + (turn ? 1 << a : 1 << v));
                }
            }
        }
        return to;
    }

    Map<Integer, Integer> from(int start, int s, IntPredicate barred) {
        Map<Integer, Integer> met = new HashMap<>();
        if (Integer.bitCount(start) > s || barred.test(start)) {
            return met;
        }
        Deque<Integer> queue = new ArrayDeque<>(List.of(start));
        met.put(start, 0);
        while (!queue.isEmpty()) {
            int p = queue.poll();
            for (int q : choices(p, s).values()) {
                if (!met.containsKey(q) && !barred.test(q)) {
                    met.put(q, met.get(p) + 1);
                    queue.add(q);
                }
            }
        }
        return met;
    }

    static boolean there(int p, int set, boolean exact) {
        return exact ? p == set : (p | set) == p;
    }

    int between(int start, int set, int s, boolean exact) {
        int best = -1;
        for (Map.Entry<Integer, Integer> e : from(start, s, p -> false).entrySet()) {
            if (there(e.getKey(), set, exact) && (best < 0 || e.getValue() < best)) {
                best = e.getValue();
            }
        }
        return best;
    }

    int within(int set, int n, boolean exact) {
        for (int s = 0; s <= 14; s++) {
            int takes = between(0, set, s, exact);
            if (takes >= 0 && takes <= n) {
                return s;
            }
        }
        return -1;
    }

    List<Integer> way(int set, int s, boolean exact) {
        List<Integer> way = new ArrayList<>();
        int p = stood();
        int left = between(p, set, s, exact);
        while (left > 0) {
            for (Map.Entry<Integer, Integer> e : choices(p, s).entrySet()) {
                if (between(e.getValue(), set, s, exact) == left - 1) {
                    way.add(e.getKey());
                    p = e.getValue();
                    break;
                }
            }
            left--;
        }
        return way;
    }

    long ways(int set, int s, boolean exact) {
        int left = between(stood(), set, s, exact);
        if (left < 0) {
            return 0;
        }
        Map<Integer, Long> at = new HashMap<>(Map.of(stood(), 1L));
        for (int i = 0; i < left; i++) {
            Map<Integer, Long> then = new HashMap<>();
            at.forEach((p, n) -> choices(p, s).values().forEach(q -> then.merge(q, n, (a, b) -> (a + b) % 1000000007)));
            at = then;
        }
        long all = 0;
        for (Map.Entry<Integer, Long> e : at.entrySet()) {
            all += there(e.getKey(), set, exact) ? e.getValue() : 0;
        }
        return all % 1000000007;
    }

    int ever(int start, int s) {
        int bits = 0;
        for (int p : from(start, s, p -> false).keySet()) {
            bits |= p;
        }
        return bits;
    }

    int far(int s, int what) {
        Map<Integer, Integer> met = from(stood(), s, p -> false);
        int most = -1;
        int first = -1;
        for (int p : new TreeSet<>(met.keySet())) {
            if (met.get(p) > most) {
                most = met.get(p);
                first = p;
            }
        }
        return what == 0 ? most : first;
    }

    int[] kept(int set, int s) {
        int best = -1;
        int cost = -1;
        for (int part = 0; part < 1 << sums.size(); part++) {
            if ((part & ~stood()) == 0 && Integer.bitCount(part) <= s) {
                int takes = between(part, set, s, false);
                if (takes >= 0 && (cost < 0 || takes < cost)) {
                    best = part;
                    cost = takes;
                }
            }
        }
        return new int[] {best, cost};
    }

    int worst(int set) {
        int worst = -1;
        int most = -1;
        for (int v : board.keySet()) {
            int takes = between(stood() - (1 << v), set, total() - 1, false);
            takes = takes < 0 ? 1000000 : takes;
            if (takes > most) {
                most = takes;
                worst = v;
            }
        }
        return worst;
    }

    int breaks(int set, int n) {
        if (board.size() < n) {
            return -5;
        }
        int most = 0;
        for (int broken = 0; broken < 1 << sums.size(); broken++) {
            if ((broken & ~stood()) == 0 && Integer.bitCount(broken) == n) {
                int takes = between(stood() - broken, set, total() - n, false);
                if (takes < 0) {
                    return -1;
                }
                most = Math.max(most, takes);
            }
        }
        return most;
    }

    int lacks(int set) {
        for (int k = 0; k <= 3; k++) {
            if (between(stood(), set, total() + k, false) >= 0) {
                return k;
            }
        }
        return -1;
    }

    int must(int set, int s) {
        if (between(stood(), set, s, false) < 0) {
            return -1;
        }
        return pick(v -> from(stood(), s, p -> (p >> v & 1) == 1).keySet().stream()
                .noneMatch(p -> there(p, set, false)));
    }

    int groups(int s, int what) {
        Set<Set<Integer>> groups = new HashSet<>();
        Set<Integer> done = new HashSet<>();
        int most = 0;
        for (int p = 0; p < 1 << sums.size(); p++) {
            if (Integer.bitCount(p) <= s && !done.contains(p)) {
                Set<Integer> group = from(p, s, q -> false).keySet();
                done.addAll(group);
                groups.add(group);
                most = Math.max(most, group.size());
            }
        }
        return what == 0 ? groups.size() : most;
    }

    record Place(int position, int wanted) {
    }

    int series(int[] wanted, int s) {
        if (Integer.bitCount(stood()) > s) {
            return -1;
        }
        Map<Place, Integer> met = new HashMap<>();
        Deque<Place> queue = new ArrayDeque<>();
        Place first = new Place(stood(), 0);
        met.put(first, 0);
        queue.add(first);
        while (!queue.isEmpty()) {
            Place at = queue.pollFirst();
            if (at.wanted == wanted.length) {
                return met.get(at);
            }
            if ((at.position >> wanted[at.wanted] & 1) == 1) {
                Place on = new Place(at.position, at.wanted + 1);
                if (!met.containsKey(on) || met.get(on) > met.get(at)) {
                    met.put(on, met.get(at));
                    queue.addFirst(on);
                }
            }
            for (int q : choices(at.position, s).values()) {
                Place on = new Place(q, at.wanted);
                if (!met.containsKey(on)) {
                    met.put(on, met.get(at) + 1);
                    queue.addLast(on);
                }
            }
        }
        return -1;
    }

    int[] walked(int seed, int n) {
        long x = seed;
        int p = stood();
        Set<Integer> seen = new HashSet<>(Set.of(p));
        for (int i = 0; i < n; i++) {
            List<Integer> to = new ArrayList<>(choices(p, total()).values());
            if (!to.isEmpty()) {
                x = java.math.BigInteger.valueOf(x).multiply(java.math.BigInteger.valueOf(1103515245))
                        .add(java.math.BigInteger.valueOf(12345))
                        .mod(java.math.BigInteger.valueOf(2147483648L)).longValue();
                p = to.get((int) (x / 65536) % to.size());
                seen.add(p);
            }
        }
        return new int[] {p, seen.size()};
    }
}
