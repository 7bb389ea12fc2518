import java.util.Arrays;

/** A school of sums on a few slates, where a sum is wiped off only by working it again. */
public final class SlatePlay {
    public static final int NONE = -1;

    private static final int NO_SUCH = -2;
    private static final int NO_SLATE = -3;
    private static final int BELOW_NOTHING = -3;
    private static final int FAULTY = -4;
    private static final int NOT_SO = -5;
    private static final int NOTHING = -6;
    private static final int OTHER_NUMBER = -6;
    private static final int BEYOND = -7;
    private static final int UNLIKE = -8;

    private static final int MOST_SUMS = 14;
    private static final int MOST_SLATES = 14;
    private static final int MOST_LENT = 3;
    private static final int MOST_BROKEN = 3;
    private static final int MOST_WANTED = 8;
    private static final int MOST_BYTES = 1600;
    private static final int MOST_STEPS = 10000;
    private static final int MOST_WALKED = 200;
    private static final int MOST_SEED = 2000000000;
    private static final int IMAGES = 3;
    private static final int MODULUS = 1000003;
    private static final int WAYS_MODULUS = 1000000007;
    /** No play goes through a POSITION twice, so none has so many MOVES and SWAPS. */
    private static final int MORE_THAN_ANY = 1 << MOST_SUMS;

    private static final int NUM = 0;
    private static final int ADD = 1;
    private static final int LESS = 2;
    private static final int TIMES = 3;
    private static final int MOST = 4;
    private static final int TURN = 5;
    private static final int SLATES = 6;

    /** Choices are MOVES, by their SUM, and from here on SWAPS, by their turn. */
    private static final int SWAPS = 14;
    private static final int CHOICES = 28;
    private static final int SWAP_NUMBERS = 100;

    private final byte[] tape = new byte[MOST_BYTES];
    private int taped = 0;
    private int latestFault = 0;
    private int latestPlace = NONE;
    private final Reader reader = new Reader(tape);
    private final School now = new School();
    /** What is told or tried out here does not touch the SCHOOL before it is known to be right. */
    private final School thought = new School();
    private final School[] images = new School[IMAGES];
    private final boolean[] kept = new boolean[IMAGES];
    private final Slots slots = new Slots();
    private final Search search = new Search(now);
    private final Patterns patterns = new Patterns();

    public SlatePlay() {
        for (int k = 0; k < IMAGES; k++) {
            images[k] = new School();
        }
    }

    // The TAPE and the SCHOOL it tells.

    public int feed(int a, int b, int c, int d, int e) {
        if (taped > MOST_BYTES - 20) {
            return NONE;
        }
        tapeNumber(a);
        tapeNumber(b);
        tapeNumber(c);
        tapeNumber(d);
        tapeNumber(e);
        return taped;
    }

    private void tapeNumber(int number) {
        for (int shift = 24; shift >= 0; shift -= 8) {
            tape[taped] = (byte) (number >>> shift);
            taped++;
        }
    }

    public int end(int n) {
        if (n < 0 || n > taped) {
            return NONE;
        }
        taped = n;
        return n;
    }

    public int school() {
        boolean right = reader.tell(taped, thought);
        latestFault = reader.fault;
        latestPlace = reader.place;
        taped = 0;
        if (!right) {
            return FAULTY;
        }
        now.take(thought);
        return now.lines;
    }

    public int fault(int what) {
        switch (what) {
            case 0:
                return latestFault;
            case 1:
                return latestPlace;
            default:
                return NONE;
        }
    }

    private boolean noSchool() {
        return now.lines == 0;
    }

    private boolean noSum(int sum) {
        return sum < 0 || sum >= now.sums;
    }

    private boolean noSet(int set) {
        return noSchool() || set >>> now.sums != 0;
    }

    private boolean noLimit(int s) {
        return noSchool() || s < 1 || s > MOST_SLATES;
    }

    private boolean noPlay(int set, int s) {
        return noSet(set) || noLimit(s);
    }

    public int sum(int sum, int what) {
        if (noSum(sum)) {
            return NO_SUCH;
        }
        switch (what) {
            case 0:
                return now.sorts[sum];
            case 1:
                return now.firsts[sum];
            case 2:
                return now.seconds[sum];
            case 3:
                return Integer.bitCount(now.origins[sum]);
            case 4:
                return Integer.bitCount(now.offspring(sum));
            case 5:
                return now.depths[sum];
            default:
                return NO_SUCH;
        }
    }

    public int value(int sum) {
        return noSum(sum) ? NO_SUCH : now.values[sum];
    }

    // What STANDS, and what is done to it.

    public int stands(int what) {
        if (noSchool()) {
            return NO_SUCH;
        }
        switch (what) {
            case 0:
                return now.stood;
            case 1:
                return now.right();
            case 2:
                return now.doubted();
            default:
                return NO_SUCH;
        }
    }

    public int board(int sum) {
        if (noSum(sum)) {
            return NO_SUCH;
        }
        return now.has(sum) ? now.numbers[sum] : NONE;
    }

    public int slates(int what) {
        if (noSchool()) {
            return NO_SUCH;
        }
        switch (what) {
            case 0:
                return now.total();
            case 1:
                return now.free();
            case 2:
                return now.lent;
            case 3:
                return now.lost;
            default:
                return NO_SUCH;
        }
    }

    public int move(int sum) {
        return noSum(sum) ? NO_SUCH : now.makeMove(sum);
    }

    public int swap(int sum) {
        return noSum(sum) || now.sorts[sum] != TURN ? NO_SUCH : now.makeSwap(sum);
    }

    public int may(int what) {
        if (noSchool()) {
            return NO_SUCH;
        }
        switch (what) {
            case 0:
                return now.movable();
            case 1:
                return now.open(now.stood, now.total()) >>> SWAPS;
            default:
                return NO_SUCH;
        }
    }

    public int smudge(int sum, int number) {
        if (noSum(sum) || number < 0 || number >= MODULUS) {
            return NO_SUCH;
        }
        if (!now.has(sum)) {
            return NOT_SO;
        }
        int old = now.numbers[sum];
        now.numbers[sum] = number;
        return old;
    }

    private boolean noLoan(int n) {
        return noSchool() || n < 1 || n > MOST_LENT;
    }

    public int lend(int n) {
        if (noLoan(n)) {
            return NO_SUCH;
        }
        if (now.lent + n > MOST_LENT) {
            return NO_SLATE;
        }
        now.lent += n;
        return now.lent;
    }

    public int give(int n) {
        if (noLoan(n)) {
            return NO_SUCH;
        }
        if (now.lent < n) {
            return NO_SLATE;
        }
        if (now.free() < n) {
            return NOT_SO;
        }
        now.lent -= n;
        return now.lent;
    }

    public int lose(int sum) {
        if (noSum(sum)) {
            return NO_SUCH;
        }
        if (!now.has(sum)) {
            return NOT_SO;
        }
        if (now.total() == 1) {
            return NO_SLATE;
        }
        now.stood ^= 1 << sum;
        now.lost++;
        return now.total();
    }

    public int clear() {
        int stood = Integer.bitCount(now.stood);
        now.stood = 0;
        return stood;
    }

    // A SLOT's row played in thought.

    public int judge(int slot) {
        int refusal = refusalToPlay(slot);
        return refusal != 0 ? refusal : playInThought(slot);
    }

    public int ends(int slot) {
        int refusal = refusalToPlay(slot);
        if (refusal != 0) {
            return refusal;
        }
        playInThought(slot);
        return thought.stood;
    }

    public int backwards(int slot) {
        int refusal = refusalToPlay(slot);
        if (refusal != 0) {
            return refusal;
        }
        int size = slots.sizes[slot];
        if (playInThought(slot) < size) {
            return 0;
        }
        for (int i = size - 1; i >= 0; i--) {
            if (!thought.play(slots.numbers[slot][i])) {
                return 0;
            }
        }
        return thought.showsAs(now) ? 1 : 0;
    }

    private int refusalToPlay(int slot) {
        if (noSchool() || slots.noSlot(slot)) {
            return NO_SUCH;
        }
        return slots.isBare(slot) ? NOTHING : 0;
    }

    /** How many of the row could be played; behind them the thought is left as they leave it. */
    private int playInThought(int slot) {
        thought.take(now);
        int size = slots.sizes[slot];
        for (int i = 0; i < size; i++) {
            if (!thought.play(slots.numbers[slot][i])) {
                return i;
            }
        }
        return size;
    }

    // Plays between POSITIONS, numbers aside.

    public int fewest(int set, boolean exact) {
        return noSet(set) ? NO_SUCH : slatesWithin(set, exact, MORE_THAN_ANY);
    }

    public int within(int set, int n, boolean exact) {
        return noSet(set) || n < 0 || n > MOST_STEPS ? NO_SUCH : slatesWithin(set, exact, n);
    }

    private int slatesWithin(int set, boolean exact, int most) {
        for (int limit = Integer.bitCount(set); limit <= now.sums; limit++) {
            int moves = search.between(0, set, exact, limit);
            if (moves != NONE && moves <= most) {
                return limit;
            }
        }
        return NONE;
    }

    public int steps(int set, int s, boolean exact) {
        return noPlay(set, s) ? NO_SUCH : search.between(0, set, exact, s);
    }

    public int go(int set, int s, boolean exact) {
        return noPlay(set, s) ? NO_SUCH : search.between(now.stood, set, exact, s);
    }

    public int next(int set, int s, boolean exact) {
        return path(set, s, exact, 0);
    }

    public int path(int set, int s, boolean exact, int i) {
        if (noPlay(set, s)) {
            return NO_SUCH;
        }
        search.aim(set, exact, s);
        int all = search.floodTo(now.stood);
        return i < 0 || i >= all ? NONE : search.choiceOnWay(now.stood, i);
    }

    public int ways(int set, int s, boolean exact) {
        if (noPlay(set, s)) {
            return NO_SUCH;
        }
        search.aim(set, exact, s);
        return search.floodTo(now.stood) == NONE ? 0 : search.routes(now.stood);
    }

    public int reach(int s) {
        if (noLimit(s)) {
            return NO_SUCH;
        }
        search.floodFrom(now.stood, s);
        return search.tail;
    }

    public int ever(int s) {
        if (noLimit(s)) {
            return NO_SUCH;
        }
        search.floodFrom(now.stood, s);
        return search.union();
    }

    public int made(int s) {
        if (noLimit(s)) {
            return NO_SUCH;
        }
        search.floodFrom(0, s);
        return search.union();
    }

    public int far(int s, int what) {
        if (noLimit(s) || what < 0 || what > 1) {
            return NO_SUCH;
        }
        search.floodFrom(now.stood, s);
        int farthest = search.farthest();
        return what == 0 && farthest != NONE ? search.distances[farthest] : farthest;
    }

    public int keep(int set, int s) {
        return noPlay(set, s) ? NO_SUCH : bestKept(set, s);
    }

    public int cost(int set, int s) {
        if (noPlay(set, s)) {
            return NO_SUCH;
        }
        int best = bestKept(set, s);
        return best == NONE ? NONE : search.distances[best];
    }

    /** The subset of what STANDS that is nearest to the SUMS wanted; behind it the search has its distance. */
    private int bestKept(int set, int s) {
        search.floodToGoals(set, s);
        int best = NONE;
        for (int part = 0; part <= now.stood; part++) {
            boolean possible = (part & now.stood) == part && search.distances[part] != NONE;
            if (possible && (best == NONE || search.distances[part] < search.distances[best])) {
                best = part;
            }
        }
        return best;
    }

    public int worst(int set) {
        if (noSet(set)) {
            return NO_SUCH;
        }
        if (now.stood == 0) {
            return NONE;
        }
        search.floodToGoals(set, now.total() - 1);
        int worst = NONE;
        int most = NONE;
        for (int v = 0; v < now.sums; v++) {
            if (now.has(v)) {
                int left = search.distances[now.stood ^ 1 << v];
                int takes = left == NONE ? MORE_THAN_ANY : left;
                if (takes > most) {
                    most = takes;
                    worst = v;
                }
            }
        }
        return worst;
    }

    public int breaks(int set, int n) {
        if (noSet(set) || n < 1 || n > MOST_BROKEN) {
            return NO_SUCH;
        }
        if (Integer.bitCount(now.stood) < n) {
            return NOT_SO;
        }
        search.floodToGoals(set, now.total() - n);
        int most = 0;
        for (int broken = 0; broken <= now.stood; broken++) {
            if ((broken & now.stood) == broken && Integer.bitCount(broken) == n) {
                int takes = search.distances[now.stood ^ broken];
                if (takes == NONE) {
                    return NONE;
                }
                most = Math.max(most, takes);
            }
        }
        return most;
    }

    public int lacks(int set) {
        if (noSet(set)) {
            return NO_SUCH;
        }
        for (int more = 0; more <= MOST_LENT; more++) {
            if (search.between(now.stood, set, false, now.total() + more) != NONE) {
                return more;
            }
        }
        return NONE;
    }

    public int must(int set, int s) {
        if (noPlay(set, s)) {
            return NO_SUCH;
        }
        if (search.between(now.stood, set, false, s) == NONE) {
            return NONE;
        }
        int must = now.stood | set;
        for (int v = 0; v < now.sums; v++) {
            if ((must >>> v & 1) == 0 && !search.comesWithout(1 << v, now.stood, set, s)) {
                must |= 1 << v;
            }
        }
        return must;
    }

    public int apart(int from, int to, int s) {
        return noPlay(from, s) || noSet(to) ? NO_SUCH : search.between(from, to, true, s);
    }

    public int groups(int s, int what) {
        if (noLimit(s) || what < 0 || what > 1) {
            return NO_SUCH;
        }
        return search.islands(s, what == 1);
    }

    public int series(int slot, int s) {
        if (noLimit(s) || slots.noSlot(slot)) {
            return NO_SUCH;
        }
        if (slots.isBare(slot)) {
            return NOTHING;
        }
        int size = slots.sizes[slot];
        if (size > MOST_WANTED) {
            return NO_SUCH;
        }
        for (int i = 0; i < size; i++) {
            long wanted = slots.numbers[slot][i];
            if (wanted < 0 || wanted >= now.sums) {
                return NO_SUCH;
            }
        }
        return movesForAll(slots.numbers[slot], size, s);
    }

    private int movesForAll(long[] wanted, int size, int s) {
        search.floodFrom(now.stood, s);
        int moves = search.nearestWith(0);
        for (int i = 0; i < size && moves != NONE; i++) {
            int bit = 1 << (int) wanted[i];
            moves = search.nearestWith(bit);
            if (moves != NONE && i < size - 1) {
                search.goOnFrom(bit);
            }
        }
        return moves;
    }

    public int culprits() {
        if (noSchool()) {
            return NO_SUCH;
        }
        thought.take(now);
        int culprits = 0;
        for (int v = 0; v < now.sums; v++) {
            if (now.has(v)) {
                thought.numbers[v] = now.values[v];
                if (thought.doubted() == 0) {
                    culprits |= 1 << v;
                }
                thought.numbers[v] = now.numbers[v];
            }
        }
        return culprits;
    }

    // CHAINS and TREES, without a SCHOOL.

    public long tree(int h, int s) {
        return patterns.noHeight(h) || s < 1 || s > Patterns.TREE_SLATES ? NO_SUCH : patterns.treeMoves(h, s);
    }

    public int tall(int h) {
        return patterns.noHeight(h) ? NO_SUCH : patterns.treeSlates(h);
    }

    public long chain(int n, int s) {
        return patterns.noChain(n, s) ? NO_SUCH : patterns.chainMoves(n, s);
    }

    public int middle(int n, int s) {
        return patterns.noChain(n, s) ? NO_SUCH : patterns.chainMiddle(n, s);
    }

    public int least(int n) {
        return patterns.noLength(n) ? NO_SUCH : patterns.chainSlates(n);
    }

    public long powers(int n, int k) {
        return patterns.noPowers(n, k) ? NO_SUCH : Patterns.powerMoves(n, k);
    }

    public int taken(int n, int k) {
        return patterns.noPowers(n, k) ? NO_SUCH : Patterns.powerSlates(n, k);
    }

    // Walks.

    public int walk(int seed, int n) {
        return noWalk(seed, n) ? NO_SUCH : stroll(seed, n);
    }

    public int seen(int seed, int n) {
        if (noWalk(seed, n)) {
            return NO_SUCH;
        }
        stroll(seed, n);
        return search.tail;
    }

    private boolean noWalk(int seed, int n) {
        return noSchool() || seed < 0 || seed > MOST_SEED || n < 0 || n > MOST_WALKED;
    }

    /** The search's marks tell apart the POSITIONS met: each is put there once. */
    private int stroll(int seed, int n) {
        int limit = now.total();
        int position = now.stood;
        long x = seed;
        search.reset(limit);
        search.put(position, 0);
        for (int i = 0; i < n; i++) {
            int open = now.open(position, limit);
            int choices = Integer.bitCount(open);
            if (choices == 0) {
                return position;
            }
            x = (1103515245L * x + 12345L) % 2147483648L;
            position ^= now.flip(bitAt(open, (int) (x / 65536L % choices)));
            search.put(position, 0);
        }
        return position;
    }

    private static int bitAt(int bits, int index) {
        int left = index;
        for (int m = 0; m < CHOICES; m++) {
            if ((bits >>> m & 1) != 0) {
                if (left == 0) {
                    return m;
                }
                left--;
            }
        }
        return 0;
    }

    // Counts, IMAGES and SLOTS.

    public int count(int what) {
        switch (what) {
            case 0:
                return now.sums;
            case 1:
                return now.turns();
            case 2:
                return now.lines;
            case 3:
                return taped;
            case 4:
                return Integer.bitCount(now.stood);
            case 5:
                return now.deepest();
            case 6:
                return now.lastOnes();
            case 7:
                return slots.rows();
            default:
                return NONE;
        }
    }

    public int image(int k) {
        if (k < 0 || k >= IMAGES) {
            return NO_SUCH;
        }
        images[k].take(now);
        kept[k] = true;
        return 0;
    }

    public int back(int k) {
        if (k < 0 || k >= IMAGES) {
            return NO_SUCH;
        }
        if (!kept[k]) {
            return NOTHING;
        }
        now.take(images[k]);
        return 0;
    }

    public int row(int slot, int width, int n) {
        if (slots.noSlot(slot) || width < 0 || width >= Slots.WIDTHS || n > Slots.MOST_NUMBERS) {
            return NO_SUCH;
        }
        if (n < 0) {
            return BELOW_NOTHING;
        }
        slots.lay(slot, width, n);
        return 0;
    }

    public int write(int slot, int i, long v) {
        if (slots.noSlot(slot)) {
            return NO_SUCH;
        }
        if (slots.isBare(slot)) {
            return NOTHING;
        }
        if (i < 0 || i >= slots.sizes[slot]) {
            return BEYOND;
        }
        slots.numbers[slot][i] = Slots.cut(v, slots.widths[slot]);
        return 0;
    }

    public int paste(int slot, int i, int to, int k, int n) {
        if (slots.noSlot(slot) || slots.noSlot(to)) {
            return NO_SUCH;
        }
        if (slots.isBare(slot) || slots.isBare(to)) {
            return NOTHING;
        }
        if (slots.widths[slot] != slots.widths[to]) {
            return UNLIKE;
        }
        if (slots.isBeyond(slot, i, n) || slots.isBeyond(to, k, n)) {
            return BEYOND;
        }
        System.arraycopy(slots.numbers[slot], i, slots.numbers[to], k, n);
        return 0;
    }

    /** A SCHOOL with its slates, what STANDS and the numbers on them; without LINES it is none. */
    private static final class School {
        int lines = 0;
        int told = 0;
        int lent = 0;
        int lost = 0;
        int sums = 0;
        int stood = 0;
        final int[] sorts = new int[MOST_SUMS];
        final int[] firsts = new int[MOST_SUMS];
        final int[] seconds = new int[MOST_SUMS];
        /** The SUMS that one comes of directly, as bits. */
        final int[] needs = new int[MOST_SUMS];
        /** The SUMS that one comes of directly or by others, as bits. */
        final int[] origins = new int[MOST_SUMS];
        final int[] depths = new int[MOST_SUMS];
        final int[] values = new int[MOST_SUMS];
        final int[] numbers = new int[MOST_SUMS];

        void empty() {
            lines = 0;
            told = 0;
            lent = 0;
            lost = 0;
            sums = 0;
            stood = 0;
        }

        void take(School other) {
            lines = other.lines;
            told = other.told;
            lent = other.lent;
            lost = other.lost;
            sums = other.sums;
            stood = other.stood;
            System.arraycopy(other.sorts, 0, sorts, 0, MOST_SUMS);
            System.arraycopy(other.firsts, 0, firsts, 0, MOST_SUMS);
            System.arraycopy(other.seconds, 0, seconds, 0, MOST_SUMS);
            System.arraycopy(other.needs, 0, needs, 0, MOST_SUMS);
            System.arraycopy(other.origins, 0, origins, 0, MOST_SUMS);
            System.arraycopy(other.depths, 0, depths, 0, MOST_SUMS);
            System.arraycopy(other.values, 0, values, 0, MOST_SUMS);
            System.arraycopy(other.numbers, 0, numbers, 0, MOST_SUMS);
        }

        /** The reader has seen to it that there is room, and that what it comes of is told ahead. */
        void addSum(int sort, int first, int second) {
            int v = sums;
            sorts[v] = sort;
            firsts[v] = first;
            seconds[v] = second;
            needs[v] = 0;
            origins[v] = 0;
            depths[v] = 0;
            if (sort != NUM) {
                comeOf(v, first);
                if (sort != TURN) {
                    comeOf(v, second);
                }
            }
            values[v] = worked(v, values);
            sums++;
        }

        private void comeOf(int v, int origin) {
            needs[v] |= 1 << origin;
            origins[v] |= 1 << origin | origins[origin];
            depths[v] = Math.max(depths[v], depths[origin] + 1);
        }

        private int worked(int v, int[] from) {
            int first = firsts[v];
            int second = seconds[v];
            switch (sorts[v]) {
                case NUM:
                    return first;
                case ADD:
                    return (from[first] + from[second]) % MODULUS;
                case LESS:
                    return Math.floorMod(from[first] - from[second], MODULUS);
                case TIMES:
                    return (int) ((long) from[first] * from[second] % MODULUS);
                case MOST:
                    return Math.max(from[first], from[second]);
                default:
                    return (from[first] + second) % MODULUS;
            }
        }

        boolean has(int v) {
            return (stood >>> v & 1) != 0;
        }

        private boolean hasNeeds(int v) {
            return (stood & needs[v]) == needs[v];
        }

        private boolean isAsWorked(int v) {
            return numbers[v] == worked(v, numbers);
        }

        int total() {
            return told + lent - lost;
        }

        int free() {
            return total() - Integer.bitCount(stood);
        }

        int right() {
            int right = 0;
            for (int v = 0; v < sums; v++) {
                if (has(v) && numbers[v] == values[v]) {
                    right |= 1 << v;
                }
            }
            return right;
        }

        int doubted() {
            int doubted = 0;
            for (int v = 0; v < sums; v++) {
                if (has(v) && hasNeeds(v) && !isAsWorked(v)) {
                    doubted |= 1 << v;
                }
            }
            return doubted;
        }

        int movable() {
            int movable = 0;
            for (int v = 0; v < sums; v++) {
                if (hasNeeds(v) && (has(v) ? isAsWorked(v) : free() > 0)) {
                    movable |= 1 << v;
                }
            }
            return movable;
        }

        int makeMove(int v) {
            if (!hasNeeds(v)) {
                return NOT_SO;
            }
            if (has(v)) {
                if (!isAsWorked(v)) {
                    return OTHER_NUMBER;
                }
                stood ^= 1 << v;
                return 0;
            }
            if (free() < 1) {
                return NO_SLATE;
            }
            numbers[v] = worked(v, numbers);
            stood |= 1 << v;
            return 1;
        }

        /** Of a turn alone. */
        int makeSwap(int v) {
            int origin = firsts[v];
            if (has(v) == has(origin)) {
                return NOT_SO;
            }
            boolean toTurn = has(origin);
            if (toTurn) {
                numbers[v] = worked(v, numbers);
            } else {
                numbers[origin] = Math.floorMod(numbers[v] - seconds[v], MODULUS);
            }
            stood ^= 1 << v | 1 << origin;
            return toTurn ? 1 : 0;
        }

        /** Plays what a row's number tells, if it can be. */
        boolean play(long number) {
            if (number >= 0 && number < sums) {
                return makeMove((int) number) >= 0;
            }
            if (number < SWAP_NUMBERS || number >= SWAP_NUMBERS + sums) {
                return false;
            }
            int v = (int) number - SWAP_NUMBERS;
            return sorts[v] == TURN && makeSwap(v) >= 0;
        }

        boolean showsAs(School other) {
            if (stood != other.stood) {
                return false;
            }
            for (int v = 0; v < sums; v++) {
                if (has(v) && numbers[v] != other.numbers[v]) {
                    return false;
                }
            }
            return true;
        }

        /** The choices there are at a POSITION of no more SUMS than the limit, as bits. */
        int open(int position, int limit) {
            int open = 0;
            for (int v = 0; v < sums; v++) {
                if ((position & needs[v]) == needs[v]) {
                    open |= 1 << v;
                }
                if (sorts[v] == TURN && (position >>> v & 1) != (position >>> firsts[v] & 1)) {
                    open |= 1 << SWAPS + v;
                }
            }
            // With every slate taken a SUM can be wiped, but none written.
            return Integer.bitCount(position) < limit ? open : open & (position | -1 << SWAPS);
        }

        /** The SUMS that a choice changes, as bits. */
        int flip(int choice) {
            if (choice < SWAPS) {
                return 1 << choice;
            }
            int v = choice - SWAPS;
            return 1 << v | needs[v];
        }

        int offspring(int v) {
            int offspring = 0;
            for (int u = v + 1; u < sums; u++) {
                if ((origins[u] >>> v & 1) != 0) {
                    offspring |= 1 << u;
                }
            }
            return offspring;
        }

        int turns() {
            int turns = 0;
            for (int v = 0; v < sums; v++) {
                if (sorts[v] == TURN) {
                    turns++;
                }
            }
            return turns;
        }

        int deepest() {
            int deepest = 0;
            for (int v = 0; v < sums; v++) {
                deepest = Math.max(deepest, depths[v]);
            }
            return deepest;
        }

        int lastOnes() {
            int used = 0;
            for (int v = 0; v < sums; v++) {
                used |= needs[v];
            }
            return (1 << sums) - 1 & ~used;
        }
    }

    /** Reads a SCHOOL off the TAPE, TOKEN by TOKEN, up to its first FAULT. */
    private static final class Reader {
        private static final int END = 0;
        private static final int WORD = 1;
        private static final int NUMBER = 2;
        private static final int SIGN = 3;
        private static final int OTHER = 4;

        /** Above every bound; longer numbers stay here, so that none wraps around. */
        private static final int HUGE = 10000000;
        private static final int MOST_TURN = 999;

        private static final int CANNOT_STAND = 1;
        private static final int OUT_OF_BOUNDS = 2;
        private static final int FIFTEENTH = 3;

        private final byte[] tape;
        private int size = 0;
        private int kind = END;
        private int start = 0;
        private int stop = 0;
        int fault = 0;
        int place = NONE;

        Reader(byte[] tape) {
            this.tape = tape;
        }

        /** Tells the first bytes of the TAPE into a SCHOOL: whether they have no FAULT. */
        boolean tell(int bytes, School into) {
            into.empty();
            size = Math.min(bytes, tape.length);
            stop = 0;
            fault = 0;
            place = NONE;
            advance();
            for (int lines = 0; lines <= MOST_BYTES && kind != END && fault == 0; lines++) {
                readLine(into);
            }
            return fault == 0;
        }

        private void readLine(School into) {
            int word = lineWord();
            if (word == NONE || (word == SLATES) != (into.lines == 0)) {
                refuse(CANNOT_STAND);
                return;
            }
            if (into.sums == MOST_SUMS) {
                refuse(FIFTEENTH);
                return;
            }
            advance();
            if (word == SLATES) {
                into.told = readNumber(1, MOST_SLATES);
            } else {
                readSum(word, into);
            }
            if (fault == 0 && kind != SIGN) {
                refuse(CANNOT_STAND);
            }
            if (fault == 0) {
                into.lines++;
                advance();
            }
        }

        private void readSum(int sort, School into) {
            int latest = into.sums - 1;
            int first = sort == NUM ? readNumber(0, MODULUS - 1) : readNumber(0, latest);
            int second = NONE;
            if (sort == TURN) {
                readBy();
                second = readNumber(1, MOST_TURN);
            } else if (sort != NUM) {
                second = readNumber(0, latest);
            }
            if (fault == 0) {
                into.addSum(sort, first, second);
            }
        }

        private void readBy() {
            if (fault == 0) {
                if (isWord("by")) {
                    advance();
                } else {
                    refuse(CANNOT_STAND);
                }
            }
        }

        private int readNumber(int least, int most) {
            if (fault != 0) {
                return 0;
            }
            if (kind != NUMBER) {
                refuse(CANNOT_STAND);
                return 0;
            }
            int number = tokenNumber();
            if (number < least || number > most) {
                refuse(OUT_OF_BOUNDS);
                return 0;
            }
            advance();
            return number;
        }

        private int tokenNumber() {
            int number = 0;
            for (int i = start; i < stop; i++) {
                number = Math.min(HUGE, number * 10 + (tape[i] - '0'));
            }
            return number;
        }

        private int lineWord() {
            if (isWord("num")) {
                return NUM;
            }
            if (isWord("add")) {
                return ADD;
            }
            if (isWord("less")) {
                return LESS;
            }
            if (isWord("times")) {
                return TIMES;
            }
            if (isWord("most")) {
                return MOST;
            }
            if (isWord("turn")) {
                return TURN;
            }
            return isWord("slates") ? SLATES : NONE;
        }

        private boolean isWord(String word) {
            if (kind != WORD || stop - start != word.length()) {
                return false;
            }
            for (int i = start; i < stop; i++) {
                if (tape[i] != word.charAt(i - start)) {
                    return false;
                }
            }
            return true;
        }

        private void refuse(int sort) {
            fault = sort;
            place = start;
        }

        /** Goes on to the next TOKEN; the end is one of its own, behind the last byte. */
        private void advance() {
            start = stop;
            while (start < size && (tape[start] == 32 || tape[start] == 10)) {
                start++;
            }
            kind = start < size ? kindOf(tape[start]) : END;
            stop = Math.min(size, start + 1);
            if (kind == WORD || kind == NUMBER) {
                while (stop < size && kindOf(tape[stop]) == kind) {
                    stop++;
                }
            }
        }

        private static int kindOf(int sign) {
            if (sign >= 'a' && sign <= 'z') {
                return WORD;
            }
            if (sign >= '0' && sign <= '9') {
                return NUMBER;
            }
            return sign == ';' ? SIGN : OTHER;
        }
    }

    /**
     * Distances between POSITIONS. Every choice can be undone by the same one,
     * so a search from the goals tells the way to them as well.
     */
    private static final class Search {
        private static final int POSITIONS = 1 << MOST_SUMS;

        private final School school;
        private int limit = 0;
        /** SUMS that may not STAND. */
        private int barred = 0;
        int[] distances = new int[POSITIONS];
        private int[] queue = new int[POSITIONS];
        private int head = 0;
        int tail = 0;
        private int[] spareDistances = new int[POSITIONS];
        private int[] spareQueue = new int[POSITIONS];

        Search(School school) {
            this.school = school;
        }

        private int positions() {
            return 1 << school.sums;
        }

        void reset(int newLimit) {
            limit = newLimit;
            barred = 0;
            forget();
        }

        private void forget() {
            head = 0;
            tail = 0;
            Arrays.fill(distances, 0, positions(), NONE);
        }

        /** Puts a POSITION behind the others, the first time it is met. */
        void put(int position, int distance) {
            if (distances[position] == NONE && (position & barred) == 0) {
                distances[position] = distance;
                queue[tail] = position;
                tail++;
            }
        }

        private void putSource(int position) {
            if (Integer.bitCount(position) <= limit) {
                put(position, 0);
            }
        }

        private void expandNext() {
            int position = queue[head];
            head++;
            int open = school.open(position, limit);
            for (int m = 0; m < CHOICES && open >>> m != 0; m++) {
                if ((open >>> m & 1) != 0) {
                    put(position ^ school.flip(m), distances[position] + 1);
                }
            }
        }

        private void flood() {
            for (int i = 0; i < POSITIONS && head < tail; i++) {
                expandNext();
            }
        }

        /** Floods just far enough to know the distance of a POSITION. */
        int floodTo(int position) {
            for (int i = 0; i < POSITIONS && head < tail && distances[position] == NONE; i++) {
                expandNext();
            }
            return distances[position];
        }

        void floodFrom(int position, int newLimit) {
            reset(newLimit);
            putSource(position);
            flood();
        }

        /** All POSITIONS where the SUMS of the set STAND become sources. */
        void aim(int set, boolean exact, int newLimit) {
            reset(newLimit);
            if (exact) {
                putSource(set);
                return;
            }
            for (int position = set; position < positions(); position = position + 1 | set) {
                putSource(position);
            }
        }

        void floodToGoals(int set, int newLimit) {
            aim(set, false, newLimit);
            flood();
        }

        int between(int from, int set, boolean exact, int newLimit) {
            reset(newLimit);
            putSource(from);
            return seek(set, exact);
        }

        boolean comesWithout(int bar, int from, int set, int newLimit) {
            reset(newLimit);
            barred = bar;
            putSource(from);
            return seek(set, false) != NONE;
        }

        private int seek(int set, boolean exact) {
            for (int i = 0; i < POSITIONS && head < tail; i++) {
                int position = queue[head];
                if (exact ? position == set : (position & set) == set) {
                    return distances[position];
                }
                expandNext();
            }
            return NONE;
        }

        /** The number of the choice that comes behind so many on the way to the goals aimed at. */
        int choiceOnWay(int from, int behind) {
            int position = from;
            int choice = choiceToGoals(position);
            for (int i = 0; i < behind && choice != NONE; i++) {
                position ^= school.flip(choice);
                choice = choiceToGoals(position);
            }
            return choice < SWAPS ? choice : choice - SWAPS + SWAP_NUMBERS;
        }

        private int choiceToGoals(int position) {
            int nearer = distances[position] - 1;
            if (nearer < 0) {
                return NONE;
            }
            int open = school.open(position, limit);
            for (int m = 0; m < CHOICES && open >>> m != 0; m++) {
                if ((open >>> m & 1) != 0 && distances[position ^ school.flip(m)] == nearer) {
                    return m;
                }
            }
            return NONE;
        }

        /** In how many shortest ways one comes to the goals aimed at, the flood having come to where one is. */
        int routes(int from) {
            int[] routes = spareDistances;
            Arrays.fill(routes, 0, positions(), 0);
            for (int i = 0; i < tail; i++) {
                int position = queue[i];
                if (distances[position] == 0) {
                    routes[position] = 1;
                }
                if (distances[position] < distances[from]) {
                    passRoutesOn(position, routes);
                }
            }
            return routes[from];
        }

        private void passRoutesOn(int position, int[] routes) {
            int farther = distances[position] + 1;
            int open = school.open(position, limit);
            for (int m = 0; m < CHOICES && open >>> m != 0; m++) {
                int other = position ^ school.flip(m);
                if ((open >>> m & 1) != 0 && distances[other] == farther) {
                    routes[other] = (routes[other] + routes[position]) % WAYS_MODULUS;
                }
            }
        }

        int union() {
            int union = 0;
            for (int i = 0; i < tail; i++) {
                union |= queue[i];
            }
            return union;
        }

        /** The least of the POSITIONS that were met last of all. */
        int farthest() {
            if (tail == 0) {
                return NONE;
            }
            int farthest = queue[tail - 1];
            int distance = distances[farthest];
            for (int i = tail - 1; i >= 0 && distances[queue[i]] == distance; i--) {
                farthest = Math.min(farthest, queue[i]);
            }
            return farthest;
        }

        /** How many groups of POSITIONS hang together, or how many the greatest has. */
        int islands(int newLimit, boolean greatest) {
            reset(newLimit);
            int islands = 0;
            int most = 0;
            for (int position = 0; position < positions(); position++) {
                int before = tail;
                putSource(position);
                if (tail > before) {
                    flood();
                    islands++;
                    most = Math.max(most, tail - before);
                }
            }
            return greatest ? most : islands;
        }

        /** The least distance at which the bits STAND; the queue is in the order of distances. */
        int nearestWith(int bits) {
            for (int i = 0; i < tail; i++) {
                if ((queue[i] & bits) == bits) {
                    return distances[queue[i]];
                }
            }
            return NONE;
        }

        /**
         * Floods anew from the POSITIONS where the bits STAND, each from the distance it has:
         * a source comes in ahead of the first POSITION that is expanded to its distance.
         */
        void goOnFrom(int bits) {
            int sources = tail;
            swapRows();
            forget();
            int source = 0;
            for (int i = 0; i < 2 * POSITIONS && (source < sources || head < tail); i++) {
                if (source < sources && isDue(spareQueue[source])) {
                    int position = spareQueue[source];
                    source++;
                    if ((position & bits) == bits) {
                        put(position, spareDistances[position]);
                    }
                } else {
                    expandNext();
                }
            }
        }

        private boolean isDue(int position) {
            return head == tail || spareDistances[position] <= distances[queue[head]] + 1;
        }

        private void swapRows() {
            int[] row = distances;
            distances = spareDistances;
            spareDistances = row;
            row = queue;
            queue = spareQueue;
            spareQueue = row;
        }
    }

    /** What the SLOTS have. */
    private static final class Slots {
        private static final int SLOTS = 4;
        static final int WIDTHS = 4;
        static final int MOST_NUMBERS = 60;

        final long[][] numbers = new long[SLOTS][MOST_NUMBERS];
        final int[] widths = new int[SLOTS];
        /** NONE where a SLOT has nothing. */
        final int[] sizes = new int[SLOTS];

        Slots() {
            Arrays.fill(sizes, NONE);
        }

        boolean noSlot(int slot) {
            return slot < 0 || slot >= SLOTS;
        }

        boolean isBare(int slot) {
            return sizes[slot] == NONE;
        }

        void lay(int slot, int width, int n) {
            widths[slot] = width;
            sizes[slot] = n;
            Arrays.fill(numbers[slot], 0L);
        }

        boolean isBeyond(int slot, int from, int n) {
            return from < 0 || n < 0 || from > sizes[slot] - n;
        }

        int rows() {
            int rows = 0;
            for (int slot = 0; slot < SLOTS; slot++) {
                if (!isBare(slot)) {
                    rows++;
                }
            }
            return rows;
        }

        static long cut(long v, int width) {
            switch (width) {
                case 0:
                    return (byte) v;
                case 1:
                    return (short) v;
                case 2:
                    return (int) v;
                default:
                    return v;
            }
        }
    }

    /** CHAINS and TREES: how many MOVES and slates they take. */
    private static final class Patterns {
        static final int TREE_SLATES = 64;
        private static final int MOST_HEIGHT = 20;
        private static final int MOST_LENGTH = 200;

        /** MOVES for a CHAIN, by its length and slates, up to the length that is known. */
        private final long[][] chains = new long[MOST_LENGTH + 1][MOST_SLATES + 1];
        private int known = 0;
        /** MOVES for a TREE of one height, by its slates. */
        private final long[] trees = new long[TREE_SLATES + 1];

        boolean noHeight(int h) {
            return h < 1 || h > MOST_HEIGHT;
        }

        boolean noLength(int n) {
            return n < 1 || n > MOST_LENGTH;
        }

        boolean noChain(int n, int s) {
            return noLength(n) || s < 1 || s > MOST_SLATES;
        }

        boolean noPowers(int n, int k) {
            return noLength(n) || k < 2 || k > 10;
        }

        long treeMoves(int h, int s) {
            growTrees(h);
            return trees[s];
        }

        int treeSlates(int h) {
            growTrees(h);
            for (int s = 1; s <= TREE_SLATES; s++) {
                if (trees[s] != NONE) {
                    return s;
                }
            }
            return NONE;
        }

        /** From many slates to few, so that the height below is still there to be used. */
        private void growTrees(int h) {
            Arrays.fill(trees, 1L);
            trees[0] = NONE;
            for (int height = 2; height <= h; height++) {
                for (int s = TREE_SLATES; s >= 1; s--) {
                    trees[s] = s < 3 ? NONE : treeAbove(s);
                }
            }
        }

        private long treeAbove(int s) {
            long one = trees[s];
            long other = trees[s - 1];
            long otherAway = trees[s - 2];
            if (one == NONE || other == NONE || otherAway == NONE) {
                return NONE;
            }
            long oneAway = other;
            return one + other + 1 + otherAway + oneAway;
        }

        long chainMoves(int n, int s) {
            while (known < n) {
                known++;
                for (int slates = 0; slates <= MOST_SLATES; slates++) {
                    chains[known][slates] = workChain(known, slates);
                }
            }
            return chains[n][s];
        }

        private long workChain(int n, int s) {
            if (s == 0) {
                return NONE;
            }
            if (n == 1) {
                return 1;
            }
            long best = NONE;
            for (int m = 1; m < n; m++) {
                long moves = chainBy(n, s, m);
                if (moves != NONE && (best == NONE || moves < best)) {
                    best = moves;
                }
            }
            return best;
        }

        private long chainBy(int n, int s, int m) {
            long made = chains[m][s];
            long others = chains[n - m][s - 1];
            long away = chains[m][s - 1];
            return made == NONE || others == NONE || away == NONE ? NONE : made + others + away;
        }

        int chainMiddle(int n, int s) {
            long moves = chainMoves(n, s);
            if (moves == NONE) {
                return NONE;
            }
            for (int m = 1; m < n; m++) {
                if (chainBy(n, s, m) == moves) {
                    return m;
                }
            }
            return 0;
        }

        int chainSlates(int n) {
            for (int s = 1; s <= MOST_SLATES; s++) {
                if (chainMoves(n, s) != NONE) {
                    return s;
                }
            }
            return NONE;
        }

        private static int powerBelow(int n, int k) {
            int power = 1;
            for (int i = 0; i < MOST_LENGTH && power * k < n; i++) {
                power *= k;
            }
            return power;
        }

        /** Lengths fall to a part's at each level, so 200 by powers of 2 go eight deep. */
        private static long powerMoves(int n, int k) {
            if (n <= k) {
                return 2L * n - 1;
            }
            int part = powerBelow(n, k);
            int whole = (n - 1) / part;
            return 2 * whole * powerMoves(part, k) + powerMoves(n - whole * part, k);
        }

        private static int powerSlates(int n, int k) {
            if (n <= k) {
                return n;
            }
            int part = powerBelow(n, k);
            int parts = (n - 1) / part + 1;
            return parts + powerSlates(part, k) - 1;
        }
    }
}
