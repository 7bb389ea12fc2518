/** The edges of promises 22 to 40 and of Term III, a method for each promise. */
public final class EdgesPlaysTest {
    private static final Check CHECK = new Check();
    /** SUMS 1, 2 and 3 STAND on 5 slates: num, num, add 0 1, turn 2, times 3 1. */
    private static final Twins RICH = new Twins(CHECK, Twins::rich);
    private static final Twins NONE = new Twins(CHECK, Twins::withoutSchool);
    private static final String THREE = "slates 2;num 1;num 2;num 3;";
    private static final int[] NO_SETS = {32, 33, 16384, -1, Integer.MIN_VALUE, Integer.MAX_VALUE};
    private static final int[] NO_LIMITS = {0, -1, 15, Integer.MIN_VALUE, Integer.MAX_VALUE};
    private static final int ALL = 16383;

    public static void main(String[] args) {
        setsRefused();
        limitsRefused();
        withoutSchool();
        fewest();
        steps();
        go();
        next();
        path();
        ways();
        reach();
        ever();
        far();
        keepAndCost();
        worst();
        breaks();
        lacks();
        must();
        apart();
        groups();
        within();
        made();
        numbersAndSlatesAside();
        schoolWithoutSums();
        CHECK.finish();
    }

    private static void due(String call, long got, long want) {
        CHECK.due(call, got, want);
    }

    private static SlatePlay nums(int slates, int standing) {
        SlatePlay x = Told.school("slates " + slates + ";" + "num 5;".repeat(14));
        for (int v = 0; v < standing; v++) {
            x.move(v);
        }
        return x;
    }

    private static void setsRefused() {
        for (int set : NO_SETS) {
            RICH.stay("fewest(" + set + ")", -2, x -> x.fewest(set, false));
            RICH.stay("steps(" + set + ")", -2, x -> x.steps(set, 5, false));
            RICH.stay("go(" + set + ")", -2, x -> x.go(set, 5, false));
            RICH.stay("next(" + set + ")", -2, x -> x.next(set, 5, false));
            RICH.stay("keep(" + set + ")", -2, x -> x.keep(set, 5));
            RICH.stay("cost(" + set + ")", -2, x -> x.cost(set, 5));
            RICH.stay("worst(" + set + ")", -2, x -> x.worst(set));
            RICH.stay("lacks(" + set + ")", -2, x -> x.lacks(set));
            RICH.stay("path(" + set + ")", -2, x -> x.path(set, 5, false, 0));
            RICH.stay("ways(" + set + ")", -2, x -> x.ways(set, 5, false));
            RICH.stay("must(" + set + ")", -2, x -> x.must(set, 5));
            RICH.stay("apart from " + set, -2, x -> x.apart(set, 0, 5));
            RICH.stay("apart to " + set, -2, x -> x.apart(0, set, 5));
            RICH.stay("breaks(" + set + ")", -2, x -> x.breaks(set, 1));
            RICH.stay("within(" + set + ")", -2, x -> x.within(set, 5, false));
        }
        SlatePlay x = nums(14, 0);
        due("fewest(16384) of 14", x.fewest(16384, true), -2);
        due("steps(16384) of 14", x.steps(16384, 14, true), -2);
        due("apart(16384) of 14", x.apart(16384, 16384, 14), -2);
    }

    private static void limitsRefused() {
        for (int s : NO_LIMITS) {
            RICH.stay("steps(0, " + s + ")", -2, x -> x.steps(0, s, false));
            RICH.stay("go(14, " + s + ")", -2, x -> x.go(14, s, true));
            RICH.stay("next(0, " + s + ")", -2, x -> x.next(0, s, false));
            RICH.stay("reach(" + s + ")", -2, x -> x.reach(s));
            RICH.stay("ever(" + s + ")", -2, x -> x.ever(s));
            RICH.stay("far(" + s + ", 0)", -2, x -> x.far(s, 0));
            RICH.stay("far(" + s + ", 1)", -2, x -> x.far(s, 1));
            RICH.stay("keep(0, " + s + ")", -2, x -> x.keep(0, s));
            RICH.stay("cost(0, " + s + ")", -2, x -> x.cost(0, s));
            RICH.stay("path(0, " + s + ")", -2, x -> x.path(0, s, false, 0));
            RICH.stay("ways(0, " + s + ")", -2, x -> x.ways(0, s, false));
            RICH.stay("must(0, " + s + ")", -2, x -> x.must(0, s));
            RICH.stay("apart(0, 0, " + s + ")", -2, x -> x.apart(0, 0, s));
            RICH.stay("groups(" + s + ", 0)", -2, x -> x.groups(s, 0));
            RICH.stay("made(" + s + ")", -2, x -> x.made(s));
        }
        for (int what : new int[] {-1, 2, Integer.MIN_VALUE, Integer.MAX_VALUE}) {
            RICH.stay("far(5, " + what + ")", -2, x -> x.far(5, what));
            RICH.stay("far(1, " + what + "): ahead of what STANDS", -2, x -> x.far(1, what));
            RICH.stay("groups(5, " + what + ")", -2, x -> x.groups(5, what));
        }
        for (int n : new int[] {0, -1, 4, Integer.MIN_VALUE, Integer.MAX_VALUE}) {
            RICH.stay("breaks(0, " + n + ")", -2, x -> x.breaks(0, n));
        }
        for (int n : new int[] {-1, 10001, Integer.MIN_VALUE, Integer.MAX_VALUE}) {
            RICH.stay("within(0, " + n + ")", -2, x -> x.within(0, n, false));
        }
    }

    private static void withoutSchool() {
        NONE.stay("fewest", -2, x -> x.fewest(0, true));
        NONE.stay("steps", -2, x -> x.steps(0, 1, true));
        NONE.stay("go", -2, x -> x.go(0, 1, true));
        NONE.stay("next", -2, x -> x.next(0, 1, true));
        NONE.stay("reach", -2, x -> x.reach(1));
        NONE.stay("ever", -2, x -> x.ever(1));
        NONE.stay("far", -2, x -> x.far(1, 0));
        NONE.stay("keep", -2, x -> x.keep(0, 1));
        NONE.stay("cost", -2, x -> x.cost(0, 1));
        NONE.stay("worst", -2, x -> x.worst(0));
        NONE.stay("lacks", -2, x -> x.lacks(0));
        NONE.stay("path", -2, x -> x.path(0, 1, true, 0));
        NONE.stay("ways", -2, x -> x.ways(0, 1, true));
        NONE.stay("must", -2, x -> x.must(0, 1));
        NONE.stay("apart", -2, x -> x.apart(0, 0, 1));
        NONE.stay("groups", -2, x -> x.groups(1, 0));
        NONE.stay("breaks", -2, x -> x.breaks(0, 1));
        NONE.stay("within", -2, x -> x.within(0, 0, true));
        NONE.stay("made", -2, x -> x.made(1));
    }

    private static void fewest() {
        RICH.stay("fewest(0, false)", 0, x -> x.fewest(0, false));
        RICH.stay("fewest(0, true)", 0, x -> x.fewest(0, true));
        RICH.stay("fewest(31, true): all", 5, x -> x.fewest(31, true));
        // 0 1 2, 2 turned to 3, 0 away, 4; to be alone it needs 0 1 2 beside it.
        RICH.stay("fewest(16, false)", 3, x -> x.fewest(16, false));
        RICH.stay("fewest(16, true)", 4, x -> x.fewest(16, true));
        SlatePlay x = nums(1, 1);
        due("fewest of the 14th", x.fewest(8192, true), 1);
        due("fewest of 13", x.fewest(8191, true), 13);
        due("fewest of all 14", x.fewest(ALL, true), 14);
        due("fewest of all 14, not exact", x.fewest(ALL, false), 14);
    }

    private static void steps() {
        RICH.stay("steps(0, 1)", 0, x -> x.steps(0, 1, true));
        RICH.stay("steps(16, 2)", -1, x -> x.steps(16, 2, false));
        RICH.stay("steps(16, 3)", 6, x -> x.steps(16, 3, false));
        RICH.stay("steps(16, 4)", 5, x -> x.steps(16, 4, false));
        RICH.stay("steps(16, 14)", 5, x -> x.steps(16, 14, false));
        RICH.stay("steps(16, 3, exact)", -1, x -> x.steps(16, 3, true));
        RICH.stay("steps(16, 4, exact)", 9, x -> x.steps(16, 4, true));
        SlatePlay x = nums(1, 1);
        due("steps(one, 1)", x.steps(8192, 1, true), 1);
        due("steps(two, 1)", x.steps(12288, 1, true), -1);
        due("steps(all, 14)", x.steps(ALL, 14, true), 14);
        due("steps(all, 13)", x.steps(ALL, 13, true), -1);
    }

    private static void go() {
        RICH.stay("go to where one is, with 3", 0, x -> x.go(14, 3, true));
        RICH.stay("go to where one is, with 2", -1, x -> x.go(14, 2, true));
        RICH.stay("go to some of them, with 3", 0, x -> x.go(6, 3, false));
        RICH.stay("go to some of them, with 2", -1, x -> x.go(6, 2, false));
        RICH.stay("go(0, 3)", 0, x -> x.go(0, 3, false));
        RICH.stay("go(0, 2)", -1, x -> x.go(0, 2, false));
        RICH.stay("go(16, 4)", 1, x -> x.go(16, 4, false));
        RICH.stay("go(16, 3)", 3, x -> x.go(16, 3, false));
        RICH.stay("go(16, 4, exact)", 6, x -> x.go(16, 4, true));
        RICH.stay("go(16, 3, exact)", -1, x -> x.go(16, 3, true));
        RICH.stay("go(31, 5)", 2, x -> x.go(31, 5, true));
        RICH.stay("go(31, 4)", -1, x -> x.go(31, 4, true));
        due("go(all, 14) of 13", nums(13, 13).go(ALL, 14, true), 1);
        due("go(all, 13) of 13", nums(13, 13).go(ALL, 13, true), -1);
        due("go(13 of them, 13) of 13", nums(13, 13).go(8191, 13, true), 0);
        due("go(13 of them, 12) of 13", nums(13, 13).go(8191, 12, true), -1);
    }

    private static void next() {
        RICH.stay("next where one is", -1, x -> x.next(14, 3, true));
        RICH.stay("next, more STAND", -1, x -> x.next(14, 2, true));
        RICH.stay("next(16, 3)", 3, x -> x.next(16, 3, false));
        RICH.stay("next(16, 4)", 4, x -> x.next(16, 4, false));
        RICH.stay("next(16, 3, exact): one does not", -1, x -> x.next(16, 3, true));
        SlatePlay x = Told.school(THREE);
        due("the least of three", x.next(7, 3, true), 0);
        due("the least of two", x.next(6, 3, true), 1);
        due("the last", nums(1, 0).next(8192, 1, true), 13);
        SlatePlay turned = Told.standing("slates 14;num 5;" + "turn 0 by 1;".repeat(13), 0);
        due("SWAPS by 100 and the SUM", turned.next(8192, 1, true), 113);
        due("a MOVE is less than a SWAP", turned.next(8192, 2, false), 13);
    }

    private static void path() {
        int[] way = {3, 103, 4};
        for (int i = 0; i < way.length; i++) {
            int of = i;
            RICH.stay("path(16, 3, " + i + ")", way[i], x -> x.path(16, 3, false, of));
        }
        for (int i : new int[] {3, 4, -1, Integer.MIN_VALUE, Integer.MAX_VALUE}) {
            RICH.stay("path(16, 3, " + i + ")", -1, x -> x.path(16, 3, false, i));
        }
        RICH.stay("path where one is", -1, x -> x.path(14, 3, true, 0));
        RICH.stay("path, more STAND", -1, x -> x.path(16, 2, false, 0));
        RICH.stay("path, one does not", -1, x -> x.path(16, 3, true, 0));
        SlatePlay x = nums(14, 0);
        due("the first of 14", x.path(ALL, 14, true, 0), 0);
        due("the last of 14", x.path(ALL, 14, true, 13), 13);
        due("a 15th", x.path(ALL, 14, true, 14), -1);
    }

    private static void ways() {
        RICH.stay("ways where one is", 1, x -> x.ways(14, 3, true));
        RICH.stay("ways where one is, not exact", 1, x -> x.ways(2, 3, false));
        RICH.stay("ways, more STAND", 0, x -> x.ways(14, 2, true));
        RICH.stay("ways, one does not", 0, x -> x.ways(16, 3, true));
        RICH.stay("ways(16, 4)", 1, x -> x.ways(16, 4, false));
        RICH.stay("ways(31, 5)", 2, x -> x.ways(31, 5, true));
        // 12! is below the modulus, 13! above it.
        due("12!", nums(14, 0).ways(4095, 14, true), 479001600);
        due("13!, cut", nums(14, 0).ways(8191, 14, true), 6227020800L % 1000000007L);
        due("14!, cut", nums(14, 0).ways(ALL, 14, true), 87178291200L % 1000000007L);
        due("any one of two", Told.school("slates 2;num 1;turn 0 by 1;").ways(0, 1, false), 1);
        // 0, 1, 2 and 1 away: 2 can neither be made nor wiped without 1, however few MOVES lie between.
        due("only by what can be", Told.school("slates 3;num 1;add 0 0;add 1 1;").ways(5, 3, true), 1);
        due("a MOVE or a SWAP, each its own way", Told.school("slates 3;num 1;num 2;turn 0 by 1;").ways(4, 2, false), 2);
    }

    private static void reach() {
        due("reach(1) of nothing", nums(14, 0).reach(1), 15);
        due("reach(13)", nums(14, 0).reach(13), 16383);
        due("reach(14)", nums(14, 0).reach(14), 16384);
        due("as many STAND as s", Told.standing(THREE, 0, 1).reach(2), 7);
        due("more STAND than s", Told.standing(THREE, 0, 1).reach(1), 0);
        RICH.stay("more of these STAND than 2", 0, x -> x.reach(2));
        // All 15 of 0 to 3 but the four together; with 4: 1 3, 1 2, 3, 2, 0 3, 0 2 and 2 3 beside it.
        RICH.stay("reach(3)", 22, x -> x.reach(3));
    }

    private static void ever() {
        due("ever(1)", nums(14, 0).ever(1), ALL);
        due("ever(14)", nums(14, 0).ever(14), ALL);
        due("as many STAND as s", Told.standing(THREE, 0, 1).ever(2), 7);
        due("more STAND than s", Told.standing(THREE, 0, 1).ever(1), 0);
        RICH.stay("more of these STAND than 2", 0, x -> x.ever(2));
        RICH.stay("ever(3)", 31, x -> x.ever(3));
        due("what can't be come to", Told.school("slates 1;num 1;add 0 0;").ever(1), 1);
        due("what can't be wiped", Told.standing("slates 2;num 1;add 0 0;", 0, 1, 0).ever(1), 2);
    }

    private static void far() {
        due("far(14, 0)", nums(14, 0).far(14, 0), 14);
        due("far(14, 1)", nums(14, 0).far(14, 1), ALL);
        due("far(1, 0)", nums(14, 0).far(1, 0), 1);
        due("far(1, 1): the first of 14", nums(14, 0).far(1, 1), 1);
        due("as many STAND as s, what 0", Told.standing(THREE, 0, 1).far(2, 0), 3);
        due("as many STAND as s, what 1", Told.standing(THREE, 0, 1).far(2, 1), 4);
        due("more STAND than s, what 0", Told.standing(THREE, 0, 1).far(1, 0), -1);
        due("more STAND than s, what 1", Told.standing(THREE, 0, 1).far(1, 1), -1);
        RICH.stay("more of these STAND than 2", -1, x -> x.far(2, 0));
        SlatePlay stuck = Told.standing("slates 2;num 1;add 0 0;", 0, 1, 0);
        due("one stays: what 0", stuck.far(1, 0), 0);
        due("one stays: what 1", stuck.far(1, 1), 2);
    }

    private static void keepAndCost() {
        Twins three = new Twins(CHECK, () -> Told.standing("slates 3;num 1;num 2;num 3;", 0, 1, 2));
        int[][] due = {{7, 3, 7, 0}, {7, 2, -1, -1}, {3, 2, 3, 0}, {3, 1, -1, -1}, {4, 1, 4, 0}, {1, 14, 1, 0},
            {0, 1, 0, 0}, {0, 14, 0, 0}, {7, 14, 7, 0}};
        for (int[] d : due) {
            String of = "(" + d[0] + ", " + d[1] + ")";
            three.stay("keep" + of, d[2], x -> x.keep(d[0], d[1]));
            three.stay("cost" + of, d[3], x -> x.cost(d[0], d[1]));
        }
        RICH.stay("keep(0, 1)", 0, x -> x.keep(0, 1));
        RICH.stay("keep(16, 2): by none", -1, x -> x.keep(16, 2));
        RICH.stay("cost(16, 2): by none", -1, x -> x.cost(16, 2));
        RICH.stay("keep(16, 3): 1 and 3", 10, x -> x.keep(16, 3));
        RICH.stay("cost(16, 3)", 1, x -> x.cost(16, 3));
        due("nothing STANDS: keep", Told.school(THREE).keep(3, 2), 0);
        due("nothing STANDS: cost", Told.school(THREE).cost(3, 2), 2);
        due("nothing STANDS: keep by none", Told.school(THREE).keep(3, 1), -1);
        // 2 is made of 0 and 1, or turned back from 3: by one MOVE or SWAP each; 3 is less than 8.
        SlatePlay x = Told.standing("slates 3;num 1;num 2;add 0 1;turn 2 by 1;", 0, 1, 2, 103);
        due("the least set of several", x.keep(4, 3), 3);
        due("its cost", x.cost(4, 3), 1);
        due("with 2 slates the other one alone", x.keep(4, 2), 8);
        due("all 14 are kept", nums(14, 14).keep(ALL, 14), ALL);
        due("but not with 13", nums(14, 14).keep(ALL, 13), -1);
    }

    private static void worst() {
        due("nothing STANDS", Told.school(THREE).worst(7), -1);
        due("nothing STANDS, nothing is wanted", Told.school(THREE).worst(0), -1);
        due("the first of several", Told.standing(THREE, 0, 1).worst(0), 0);
        due("it can't be brought back", Told.standing(THREE, 0, 1).worst(2), 1);
        due("nor can any of two", Told.standing(THREE, 0, 1).worst(3), 0);
        due("the only one", Told.standing("slates 1;num 1;num 2;", 1).worst(1), 1);
        due("SUM 0 alone", Told.standing("slates 1;num 1;num 2;", 0).worst(1), 0);
        due("SUM 0 alone, nothing is wanted", Told.standing("slates 1;num 1;num 2;", 0).worst(0), 0);
        // Behind each slate the SUM is to be made again, by one MOVE.
        SlatePlay x = Told.standing("slates 3;num 1;add 0 0;add 1 1;", 0, 1, 2);
        x.lend(1);
        due("the first of those that take one MOVE", x.worst(7), 0);
        due("2 alone is to be made again", x.worst(4), 2);
        RICH.stay("worst(14)", 2, y -> y.worst(14));
        due("the last of 14", worstOfLast(), 13);
    }

    /** 13 nums STAND and a SUM of two of them: behind its slate one MOVE is to be made, behind the others none. */
    private static int worstOfLast() {
        SlatePlay x = Told.school("slates 14;" + "num 5;".repeat(13) + "add 0 1;");
        for (int v = 0; v < 14; v++) {
            x.move(v);
        }
        x.lend(1);
        return x.worst(8192);
    }

    private static void breaks() {
        Twins two = new Twins(CHECK, () -> Told.standing("slates 5;num 1;num 2;num 3;", 0, 1));
        two.stay("one breaks", 1, x -> x.breaks(3, 1));
        two.stay("both break", 2, x -> x.breaks(3, 2));
        two.stay("three break of two", -5, x -> x.breaks(3, 3));
        two.stay("three are wanted", 3, x -> x.breaks(7, 2));
        two.stay("nothing is wanted", 0, x -> x.breaks(0, 2));
        Twins tight = new Twins(CHECK, () -> Told.standing(THREE, 0, 1));
        tight.stay("from some one does not come there", -1, x -> x.breaks(3, 1));
        tight.stay("one slate is left", 2, x -> x.breaks(4, 1));
        tight.stay("no slate is left", -1, x -> x.breaks(4, 2));
        tight.stay("no slate is left for nothing", 0, x -> x.breaks(0, 2));
        tight.stay("not so many STAND is asked ahead", -5, x -> x.breaks(7, 3));
        due("nothing STANDS", Told.school(THREE).breaks(0, 1), -5);
        due("three of 14", nums(14, 14).breaks(0, 3), 0);
        RICH.stay("breaks(0, 3)", 0, x -> x.breaks(0, 3));
        // Behind 2's slate: 3 swapped to 2, and made again.
        RICH.stay("breaks(14, 1)", 2, x -> x.breaks(14, 1));
    }

    private static void lacks() {
        for (int slates = 1; slates <= 14; slates++) {
            int lack = 14 - slates;
            due("lacks of 14 with " + slates, nums(slates, 0).lacks(ALL), lack <= 3 ? lack : -1);
            due("lacks nothing with " + slates, nums(slates, slates).lacks(0), 0);
        }
        Twins full = new Twins(CHECK, () -> Told.standing("slates 2;num 1;num 2;num 3;num 4;num 5;num 6;", 0, 1));
        full.stay("three more", 3, x -> x.lacks(31));
        full.stay("four more", -1, x -> x.lacks(63));
        full.stay("none more", 0, x -> x.lacks(48));
        RICH.stay("lacks(31)", 0, x -> x.lacks(31));
        SlatePlay x = Told.school("slates 1;num 1;num 2;num 3;num 4;num 5;num 6;num 7;");
        x.lend(3);
        due("with three lent already", x.lacks(127), 3);
        x.lend(1);
        due("lend is refused", x.slates(0), 4);
    }

    private static void must() {
        RICH.stay("must where one is", 14, x -> x.must(0, 3));
        RICH.stay("must, more STAND", -1, x -> x.must(0, 2));
        RICH.stay("must(16, 2), more STAND", -1, x -> x.must(16, 2));
        RICH.stay("must(16, 4)", 30, x -> x.must(16, 4));
        RICH.stay("must(16, 3): one does not come to 4 alone so", 30, x -> x.must(16, 3));
        RICH.stay("must(1, 3)", 15, x -> x.must(1, 3));
        due("must of nothing", nums(14, 0).must(0, 1), 0);
        due("must of all", nums(14, 0).must(ALL, 14), ALL);
        due("one does not", nums(14, 0).must(ALL, 13), -1);
        due("others need not", nums(14, 0).must(8192, 14), 8192);
        // 2 may be made beside 1 or swapped to from 1, but 0 and 1 must STAND for either.
        due("either way", Told.school("slates 2;num 1;add 0 0;turn 1 by 1;").must(4, 3), 7);
        due("wiped ones, too", Told.standing("slates 2;num 1;num 2;", 0).must(2, 1), 3);
    }

    private static void apart() {
        RICH.stay("apart(0, 0, 1)", 0, x -> x.apart(0, 0, 1));
        RICH.stay("apart(31, 31, 5)", 0, x -> x.apart(31, 31, 5));
        RICH.stay("apart(31, 31, 4)", -1, x -> x.apart(31, 31, 4));
        RICH.stay("apart(3, 1, 1): more STAND in the first", -1, x -> x.apart(3, 1, 1));
        RICH.stay("apart(1, 3, 1): more STAND in the second", -1, x -> x.apart(1, 3, 1));
        RICH.stay("apart(1, 3, 2)", 1, x -> x.apart(1, 3, 2));
        RICH.stay("apart(3, 1, 2)", 1, x -> x.apart(3, 1, 2));
        RICH.stay("apart(4, 8, 1): a SWAP", 1, x -> x.apart(4, 8, 1));
        RICH.stay("apart(4, 0, 2): one does not", -1, x -> x.apart(4, 0, 2));
        RICH.stay("apart(4, 0, 3)", 5, x -> x.apart(4, 0, 3));
        due("apart(0, all, 14)", nums(1, 1).apart(0, ALL, 14), 14);
        due("apart(all, 0, 14)", nums(1, 1).apart(ALL, 0, 14), 14);
        due("apart(all, all, 13)", nums(1, 1).apart(ALL, ALL, 13), -1);
    }

    private static void groups() {
        due("groups(1, 0)", nums(1, 1).groups(1, 0), 1);
        due("groups(1, 1)", nums(1, 1).groups(1, 1), 15);
        due("groups(14, 0)", nums(1, 1).groups(14, 0), 1);
        due("groups(14, 1)", nums(1, 1).groups(14, 1), 16384);
        due("groups(13, 1)", nums(1, 1).groups(13, 1), 16383);
        // Nothing and 0; 1 alone.
        SlatePlay x = Told.school("slates 1;num 1;add 0 0;");
        due("groups of two", x.groups(1, 0), 2);
        due("the greatest of two", x.groups(1, 1), 2);
        due("groups of all", x.groups(2, 0), 1);
        due("the greatest is all", x.groups(14, 1), 4);
        // 13 turns of one num: with one slate all that are one hang together by it.
        SlatePlay turned = Told.school("slates 14;num 5;" + "turn 0 by 1;".repeat(13));
        due("groups of turns", turned.groups(1, 0), 1);
        due("the greatest of turns", turned.groups(1, 1), 15);
        SlatePlay alone = Told.school("slates 14;num 5;" + "add 0 0;".repeat(13));
        due("groups that are alone", alone.groups(1, 0), 14);
        due("the greatest of them", alone.groups(1, 1), 2);
    }

    private static void within() {
        RICH.stay("within(0, 0)", 0, x -> x.within(0, 0, true));
        RICH.stay("within(0, 10000)", 0, x -> x.within(0, 10000, false));
        RICH.stay("within(16, 6)", 3, x -> x.within(16, 6, false));
        RICH.stay("within(16, 5)", 4, x -> x.within(16, 5, false));
        RICH.stay("within(16, 4)", -1, x -> x.within(16, 4, false));
        RICH.stay("within(16, 10000)", 3, x -> x.within(16, 10000, false));
        RICH.stay("within(16, 9, exact)", 4, x -> x.within(16, 9, true));
        RICH.stay("within(16, 8, exact)", -1, x -> x.within(16, 8, true));
        RICH.stay("within(1, 0)", -1, x -> x.within(1, 0, false));
        RICH.stay("within(1, 1)", 1, x -> x.within(1, 1, false));
        due("within(all, 14)", nums(1, 1).within(ALL, 14, true), 14);
        due("within(all, 13)", nums(1, 1).within(ALL, 13, true), -1);
    }

    private static void made() {
        due("made(1)", nums(14, 0).made(1), ALL);
        due("made(14)", nums(14, 0).made(14), ALL);
        RICH.stay("made(1)", 3, x -> x.made(1));
        RICH.stay("made(2)", 3, x -> x.made(2));
        RICH.stay("made(3)", 31, x -> x.made(3));
        RICH.stay("made(14)", 31, x -> x.made(14));
        due("from nothing", Told.standing("slates 2;num 1;add 0 0;", 0, 1, 0).made(1), 1);
    }

    /** Plays look neither at numbers nor, where s is told, at the slates there are. */
    private static void numbersAndSlatesAside() {
        SlatePlay x = Told.standing("slates 2;num 1;num 2;num 3;", 0, 1);
        x.smudge(0, 9);
        due("go", x.go(0, 2, true), 2);
        due("next", x.next(0, 2, true), 0);
        due("go with more than there are", x.go(7, 3, true), 1);
        due("steps with more than there are", x.steps(7, 3, true), 3);
        due("reach with more than there are", x.reach(3), 8);
        due("a MOVE is refused all the same", x.move(0), -6);
        due("with those there are", x.lacks(7), 1);
    }

    private static void schoolWithoutSums() {
        SlatePlay x = Told.school("slates 1;");
        due("fewest", x.fewest(0, true), 0);
        due("fewest(1)", x.fewest(1, true), -2);
        due("steps", x.steps(0, 1, true), 0);
        due("go", x.go(0, 14, false), 0);
        due("next", x.next(0, 1, false), -1);
        due("reach", x.reach(14), 1);
        due("ever", x.ever(1), 0);
        due("far(1, 0)", x.far(1, 0), 0);
        due("far(1, 1)", x.far(1, 1), 0);
        due("keep", x.keep(0, 1), 0);
        due("cost", x.cost(0, 1), 0);
        due("worst", x.worst(0), -1);
        due("lacks", x.lacks(0), 0);
        due("path", x.path(0, 1, true, 0), -1);
        due("ways", x.ways(0, 1, true), 1);
        due("must", x.must(0, 1), 0);
        due("apart", x.apart(0, 0, 1), 0);
        due("groups(1, 0)", x.groups(1, 0), 1);
        due("groups(1, 1)", x.groups(1, 1), 1);
        due("breaks", x.breaks(0, 1), -5);
        due("within", x.within(0, 0, true), 0);
        due("made", x.made(14), 0);
    }
}
