/** Promises 22 to 41: plays between POSITIONS. */
public final class PlaysTest {
    private static final Check CHECK = new Check();
    private static final String CHAIN = "slates 3;num 1;add 0 0;add 1 1;add 2 2;";
    private static final String DIAMOND = "slates 3;num 1;num 2;add 0 1;less 1 0;times 2 3;";
    private static final String TURNS = "slates 2;num 1;turn 0 by 5;add 1 1;turn 2 by 7;";

    public static void main(String[] args) {
        fewestOfChain();
        stepsOfChain();
        fromWhereOneIs();
        byTurns();
        reached();
        kept();
        broken();
        lacking();
        waysOfDiamond();
        musts();
        apart();
        grouped();
        withinSteps();
        made();
        inSeries();
        greatest();
        refusedSets();
        withoutSchool();
        CHECK.finish();
    }

    private static void fewestOfChain() {
        SlatePlay x = Told.school(CHAIN);
        CHECK.due("fewest of nothing", x.fewest(0, false), 0);
        CHECK.due("fewest of nothing, exact", x.fewest(0, true), 0);
        CHECK.due("fewest(1)", x.fewest(1, true), 1);
        CHECK.due("fewest(2)", x.fewest(2, false), 2);
        CHECK.due("fewest(4)", x.fewest(4, false), 2);
        CHECK.due("fewest(8)", x.fewest(8, false), 3);
        CHECK.due("fewest(8, exact)", x.fewest(8, true), 3);
        CHECK.due("fewest(15)", x.fewest(15, true), 4);
        CHECK.due("fewest does not look at the slates", Told.school(CHAIN.replace('3', '1')).fewest(15, true), 4);
    }

    private static void stepsOfChain() {
        SlatePlay x = Told.school(CHAIN);
        CHECK.due("steps(8, 3)", x.steps(8, 3, false), 5);
        CHECK.due("steps(8, 4)", x.steps(8, 4, false), 4);
        CHECK.due("steps(8, 3, exact)", x.steps(8, 3, true), 9);
        CHECK.due("steps(8, 4, exact)", x.steps(8, 4, true), 7);
        CHECK.due("steps(8, 14, exact)", x.steps(8, 14, true), 7);
        CHECK.due("steps(8, 2)", x.steps(8, 2, false), -1);
        CHECK.due("steps(2, 2, exact)", x.steps(2, 2, true), 3);
        CHECK.due("steps(4, 2)", x.steps(4, 2, false), 4);
        CHECK.due("steps(4, 2, exact)", x.steps(4, 2, true), -1);
        CHECK.due("steps(0, 1)", x.steps(0, 1, true), 0);
        CHECK.due("steps(15, 3)", x.steps(15, 3, false), -1);
        x.move(0);
        CHECK.due("steps are from nothing", x.steps(8, 4, false), 4);
    }

    private static void fromWhereOneIs() {
        SlatePlay x = Told.standing(CHAIN, 0, 1, 2);
        CHECK.due("go(8, 3)", x.go(8, 3, false), 2);
        CHECK.due("go(8, 4)", x.go(8, 4, false), 1);
        CHECK.due("go(8, 3, exact)", x.go(8, 3, true), 6);
        CHECK.due("go(8, 2): more STAND", x.go(8, 2, false), -1);
        CHECK.due("go(7, 2): one is there, but more STAND", x.go(7, 2, true), -1);
        CHECK.due("go(7, 3)", x.go(7, 3, true), 0);
        CHECK.due("go(6, 3)", x.go(6, 3, false), 0);
        CHECK.due("go(6, 3, exact)", x.go(6, 3, true), 1);
        CHECK.due("next(8, 3)", x.next(8, 3, false), 0);
        CHECK.due("next(8, 4)", x.next(8, 4, false), 3);
        CHECK.due("next(7, 3): one is there", x.next(7, 3, true), -1);
        CHECK.due("next(15, 3): one does not", x.next(15, 3, true), -1);
        CHECK.due("next(8, 2): more STAND", x.next(8, 2, false), -1);
        x.smudge(1, 77);
        CHECK.due("numbers aside", x.go(8, 3, true), 6);
        x.clear();
        int[] way = {0, 1, 0, 2, 3, -1, -1};
        for (int i = 0; i < way.length; i++) {
            CHECK.due("path " + i, x.path(8, 3, false, i), way[i]);
        }
        CHECK.due("path -1", x.path(8, 3, false, -1), -1);
        CHECK.due("path least", x.path(8, 3, false, Integer.MIN_VALUE), -1);
        CHECK.due("path greatest", x.path(8, 3, false, Integer.MAX_VALUE), -1);
        CHECK.due("path one does not come", x.path(8, 2, false, 0), -1);
        CHECK.due("path one is there", x.path(0, 2, true, 0), -1);
    }

    private static void byTurns() {
        SlatePlay x = Told.school(TURNS);
        CHECK.due("fewest(8)", x.fewest(8, true), 2);
        CHECK.due("steps(2, 1)", x.steps(2, 1, true), 2);
        CHECK.due("steps(4, 1)", x.steps(4, 1, false), -1);
        CHECK.due("steps(4, 2)", x.steps(4, 2, false), 3);
        CHECK.due("steps(8, 2)", x.steps(8, 2, false), 4);
        CHECK.due("steps(8, 2, exact)", x.steps(8, 2, true), 6);
        CHECK.due("steps(8, 3, exact)", x.steps(8, 3, true), 6);
        int[] way = {0, 101, 2, 101, 0, 103, -1};
        for (int i = 0; i < way.length; i++) {
            CHECK.due("path of turns " + i, x.path(8, 2, true, i), way[i]);
        }
        x.move(0);
        CHECK.due("next is a MOVE ahead of a SWAP", x.next(2, 2, false), 1);
        CHECK.due("next is a SWAP", x.next(2, 1, false), 101);
        CHECK.due("ways of both", x.ways(2, 2, false), 2);
        CHECK.due("ways of the SWAP", x.ways(2, 2, true), 1);
        x.swap(1);
        CHECK.due("back by a SWAP", x.next(0, 1, true), 101);
    }

    private static void reached() {
        SlatePlay x = Told.school(CHAIN);
        CHECK.due("reach(1)", x.reach(1), 2);
        CHECK.due("reach(2)", x.reach(2), 5);
        CHECK.due("reach(4)", x.reach(4), 16);
        CHECK.due("reach(14)", x.reach(14), 16);
        CHECK.due("ever(1)", x.ever(1), 1);
        CHECK.due("ever(2)", x.ever(2), 7);
        CHECK.due("ever(3)", x.ever(3), 15);
        CHECK.due("far(2, 0)", x.far(2, 0), 4);
        CHECK.due("far(2, 1)", x.far(2, 1), 6);
        CHECK.due("far(4, 0)", x.far(4, 0), 7);
        CHECK.due("far(4, 1)", x.far(4, 1), 8);
        CHECK.due("far(2, 2)", x.far(2, 2), -2);
        CHECK.due("far(2, -1)", x.far(2, -1), -2);
        x.move(0);
        x.move(1);
        CHECK.due("reach(1): more STAND", x.reach(1), 0);
        CHECK.due("ever(1): more STAND", x.ever(1), 0);
        CHECK.due("far(1, 0): more STAND", x.far(1, 0), -1);
        CHECK.due("far(1, 1): more STAND", x.far(1, 1), -1);
        CHECK.due("far(1, 2): no such what", x.far(1, 2), -2);
        SlatePlay y = Told.school("slates 4;num 1;num 2;num 3;");
        CHECK.due("far(2, 0) of like ones", y.far(2, 0), 2);
        CHECK.due("far(2, 1) is the first", y.far(2, 1), 3);
        CHECK.due("reach(2) of like ones", y.reach(2), 7);
    }

    private static void kept() {
        SlatePlay x = Told.standing(CHAIN, 0, 1, 2);
        CHECK.due("keep(8, 3)", x.keep(8, 3), 4);
        CHECK.due("cost(8, 3)", x.cost(8, 3), 1);
        CHECK.due("keep(8, 2)", x.keep(8, 2), 4);
        CHECK.due("cost(8, 2)", x.cost(8, 2), 1);
        CHECK.due("keep(8, 1)", x.keep(8, 1), -1);
        CHECK.due("cost(8, 1)", x.cost(8, 1), -1);
        CHECK.due("keep(0, 1)", x.keep(0, 1), 0);
        CHECK.due("cost(0, 1)", x.cost(0, 1), 0);
        CHECK.due("keep(6, 2)", x.keep(6, 2), 6);
        CHECK.due("keep(9, 3)", x.keep(9, 3), 5);
        CHECK.due("cost(9, 3)", x.cost(9, 3), 1);
        CHECK.due("keep(15, 3)", x.keep(15, 3), -1);
        CHECK.due("keep(15, 4)", x.keep(15, 4), 7);
        CHECK.due("keep(8, 0)", x.keep(8, 0), -2);
        CHECK.due("cost(8, 15)", x.cost(8, 15), -2);
    }

    private static void broken() {
        SlatePlay x = Told.standing(CHAIN, 0, 1, 2);
        CHECK.due("worst(8): the first without which one does not come there", x.worst(8), 0);
        CHECK.due("worst(0): the first", x.worst(0), 0);
        CHECK.due("worst(2)", x.worst(2), 1);
        CHECK.due("breaks(8, 1)", x.breaks(8, 1), -1);
        CHECK.due("breaks(2, 1)", x.breaks(2, 1), -1);
        CHECK.due("breaks(0, 3)", x.breaks(0, 3), 0);
        CHECK.due("breaks(8, 3)", x.breaks(8, 3), -1);
        CHECK.due("breaks(8, 4)", x.breaks(8, 4), -2);
        CHECK.due("breaks(8, 0)", x.breaks(8, 0), -2);
        x.lend(1);
        CHECK.due("breaks(8, 1) with one more", x.breaks(8, 1), 3);
        CHECK.due("worst(8) with one more", x.worst(8), 2);
        x.lend(2);
        CHECK.due("breaks(8, 3) with three more", x.breaks(8, 3), 5);
        x.move(2);
        CHECK.due("breaks(8, 3) of two", x.breaks(8, 3), -5);
        x.clear();
        CHECK.due("worst of nothing", x.worst(8), -1);
        CHECK.due("breaks(8, 1) of nothing", x.breaks(8, 1), -5);
        SlatePlay one = Told.standing("slates 1;num 1;num 2;", 1);
        CHECK.due("worst of the last slate", one.worst(1), 1);
        CHECK.due("breaks of the last slate", one.breaks(1, 1), -1);
        CHECK.due("breaks of the last slate to nothing", one.breaks(0, 1), 0);
        CHECK.due("nothing broke", one.stands(0), 2);
    }

    private static void lacking() {
        SlatePlay x = Told.school("slates 1;num 1;add 0 0;add 1 1;add 2 2;add 3 3;");
        CHECK.due("lacks(0)", x.lacks(0), 0);
        CHECK.due("lacks(1)", x.lacks(1), 0);
        CHECK.due("lacks(2)", x.lacks(2), 1);
        CHECK.due("lacks(4)", x.lacks(4), 1);
        CHECK.due("lacks(8)", x.lacks(8), 2);
        CHECK.due("lacks(16)", x.lacks(16), 2);
        CHECK.due("lacks(31)", x.lacks(31), -1);
        x.lend(3);
        CHECK.due("lacks(16) with three lent", x.lacks(16), 0);
        CHECK.due("lacks(31) with three lent", x.lacks(31), 1);
        x.move(0);
        x.lose(0);
        CHECK.due("lacks(31) with one lost", x.lacks(31), 2);
    }

    private static void waysOfDiamond() {
        SlatePlay x = Told.school(DIAMOND);
        CHECK.due("ways(4, 3)", x.ways(4, 3, false), 2);
        CHECK.due("ways(12, 4)", x.ways(12, 4, false), 4);
        CHECK.due("ways(16, 5)", x.ways(16, 5, false), 4);
        CHECK.due("ways(16, 3)", x.ways(16, 3, false), 0);
        CHECK.due("ways one is there", x.ways(0, 1, true), 1);
        SlatePlay y = Told.school("slates 14;" + "num 1;".repeat(14));
        CHECK.due("14! ways, cut", y.ways(16383, 14, true), 87178291200L % 1000000007L);
    }

    private static void musts() {
        SlatePlay x = Told.school(DIAMOND);
        CHECK.due("must(16, 5)", x.must(16, 5), 31);
        CHECK.due("must(4, 5)", x.must(4, 5), 7);
        CHECK.due("must(16, 3)", x.must(16, 3), -1);
        CHECK.due("must(0, 1)", x.must(0, 1), 0);
        x.move(0);
        CHECK.due("must of where one is", x.must(0, 1), 1);
        CHECK.due("must: more STAND", Told.standing(DIAMOND, 0, 1).must(0, 1), -1);
        SlatePlay y = Told.school(TURNS);
        CHECK.due("must of turns", y.must(8, 2), 15);
        CHECK.due("must of turns, more slates", y.must(8, 14), 15);
        y.move(0);
        y.swap(1);
        y.move(2);
        CHECK.due("must behind them", y.must(8, 2), 14);
    }

    private static void apart() {
        SlatePlay x = Told.school(CHAIN);
        CHECK.due("apart(7, 8, 3)", x.apart(7, 8, 3), 6);
        CHECK.due("apart(8, 7, 3)", x.apart(8, 7, 3), 6);
        CHECK.due("apart(8, 7, 2)", x.apart(8, 7, 2), -1);
        CHECK.due("apart(7, 8, 2)", x.apart(7, 8, 2), -1);
        CHECK.due("apart(8, 8, 1)", x.apart(8, 8, 1), 0);
        CHECK.due("apart(8, 0, 2)", x.apart(8, 0, 2), -1);
        CHECK.due("apart(16, 0, 2)", x.apart(16, 0, 2), -2);
        CHECK.due("apart(0, 16, 2)", x.apart(0, 16, 2), -2);
        CHECK.due("apart(-1, 0, 2)", x.apart(-1, 0, 2), -2);
        CHECK.due("apart(0, 0, 0)", x.apart(0, 0, 0), -2);
        CHECK.due("apart(0, 0, 15)", x.apart(0, 0, 15), -2);
    }

    private static void grouped() {
        SlatePlay x = Told.school(CHAIN);
        CHECK.due("groups(1, 0)", x.groups(1, 0), 4);
        CHECK.due("groups(1, 1)", x.groups(1, 1), 2);
        CHECK.due("groups(4, 0)", x.groups(4, 0), 1);
        CHECK.due("groups(4, 1)", x.groups(4, 1), 16);
        CHECK.due("groups(1, 2)", x.groups(1, 2), -2);
        CHECK.due("groups(1, -1)", x.groups(1, -1), -2);
        CHECK.due("groups(0, 0)", x.groups(0, 0), -2);
        SlatePlay y = Told.school(TURNS);
        CHECK.due("groups of turns", y.groups(1, 0), 2);
        CHECK.due("the greatest of turns", y.groups(1, 1), 3);
    }

    private static void withinSteps() {
        SlatePlay x = Told.school(CHAIN);
        CHECK.due("within(8, 9, exact)", x.within(8, 9, true), 3);
        CHECK.due("within(8, 8, exact)", x.within(8, 8, true), 4);
        CHECK.due("within(8, 7, exact)", x.within(8, 7, true), 4);
        CHECK.due("within(8, 6, exact)", x.within(8, 6, true), -1);
        CHECK.due("within(8, 5)", x.within(8, 5, false), 3);
        CHECK.due("within(8, 4)", x.within(8, 4, false), 4);
        CHECK.due("within(8, 3)", x.within(8, 3, false), -1);
        CHECK.due("within(8, 10000)", x.within(8, 10000, false), 3);
        CHECK.due("within(8, 10001)", x.within(8, 10001, false), -2);
        CHECK.due("within(8, -1)", x.within(8, -1, false), -2);
        CHECK.due("within(0, 0)", x.within(0, 0, true), 0);
    }

    private static void made() {
        SlatePlay x = Told.standing(CHAIN, 0, 1, 2);
        CHECK.due("made(1)", x.made(1), 1);
        CHECK.due("made(2)", x.made(2), 7);
        CHECK.due("made(3)", x.made(3), 15);
        CHECK.due("made(0)", x.made(0), -2);
        CHECK.due("made(15)", x.made(15), -2);
    }

    private static void inSeries() {
        SlatePlay x = Told.standing(CHAIN, 0, 1, 2);
        Told.row(x, 2, 0, 3, 0);
        CHECK.due("series 3 0", x.series(2, 3), 2);
        CHECK.due("series with more slates", x.series(2, 4), 1);
        CHECK.due("series: more STAND", x.series(2, 2), -1);
        x.write(2, 1, 4);
        CHECK.due("series of no SUM", x.series(2, 3), -2);
        x.write(2, 1, 103);
        CHECK.due("series of a SWAP", x.series(2, 3), -2);
        Told.row(x, 2, 0, 4, 0);
        CHECK.due("series of no SUM first", x.series(2, 3), -2);
        CHECK.due("series of nothing", x.series(3, 3), -6);
        CHECK.due("series of no SLOT", x.series(4, 3), -2);
        CHECK.due("series of no s", x.series(3, 15), -2);
        CHECK.due("series of s 0", x.series(3, 0), -2);
        Told.row(x, 1, 3, 0, 1, 2, 1, 0, 2, 2, 0);
        CHECK.due("series at once", x.series(1, 3), 0);
        Told.row(x, 1, 3, 0, 1, 2, 1, 0, 2, 2, 0, 0);
        CHECK.due("series of nine", x.series(1, 3), -2);
        Told.row(x, 1, 3);
        CHECK.due("series of none", x.series(1, 3), 0);
        CHECK.due("series of none: more STAND", x.series(1, 2), -1);
        x.clear();
        Told.row(x, 0, 2, 3, 2, 3, 1, 0);
        CHECK.due("series of many", x.series(0, 3), 7);
        Told.row(x, 0, 2, 2);
        CHECK.due("series with fewer slates", x.series(0, 2), 4);
        CHECK.due("series one can't come to", x.series(0, 1), -1);
        SlatePlay y = Told.school("slates 1;num 1;num 2;num 3;");
        Told.row(y, 0, 0, 2, 0, 1, 2);
        CHECK.due("series with one slate", y.series(0, 1), 7);
        CHECK.due("series with two slates", y.series(0, 2), 4);
        CHECK.due("series with three slates", y.series(0, 3), 3);
    }

    /** The bits of 14 SUMS, and more slates than SUMS. */
    private static void greatest() {
        StringBuilder text = new StringBuilder("slates 14;num 1;");
        for (int v = 1; v < 14; v++) {
            text.append(v % 2 == 1 ? "add " : "times ").append(v - 1).append(' ').append(v - 1).append(';');
        }
        SlatePlay x = Told.school(text.toString());
        CHECK.due("fewest of the last", x.fewest(1 << 13, true), 5);
        CHECK.due("fewest of all", x.fewest(16383, true), 14);
        CHECK.due("steps of the last", x.steps(1 << 13, 14, true), 27);
        CHECK.due("reach(14)", x.reach(14), 16384);
        CHECK.due("groups(14, 0)", x.groups(14, 0), 1);
        CHECK.due("groups(14, 1)", x.groups(14, 1), 16384);
        CHECK.due("made(14)", x.made(14), 16383);
        CHECK.due("must", x.must(1 << 13, 14), 16383);
        CHECK.due("within 27", x.within(1 << 13, 27, true), 14);
        for (int v = 0; v < 14; v++) {
            x.move(v);
        }
        x.lend(3);
        CHECK.due("all STAND", x.stands(0), 16383);
        CHECK.due("slates(0)", x.slates(0), 17);
        CHECK.due("worst of all", x.worst(16383), 0);
        CHECK.due("breaks(16383, 1)", x.breaks(16383, 1), 1);
        CHECK.due("breaks(16383, 3)", x.breaks(16383, 3), 3);
        CHECK.due("lacks(16383)", x.lacks(16383), 0);
        CHECK.due("keep(all, 13)", x.keep(16383, 13), -1);
        CHECK.due("cost(all, 14)", x.cost(16383, 14), 0);
    }

    private static void refusedSets() {
        SlatePlay x = Told.school(CHAIN);
        for (int set : new int[] {16, -1, Integer.MIN_VALUE, Integer.MAX_VALUE, 1 << 14}) {
            CHECK.due("fewest of " + set, x.fewest(set, true), -2);
            CHECK.due("within of " + set, x.within(set, 5, true), -2);
            CHECK.due("worst of " + set, x.worst(set), -2);
            CHECK.due("lacks of " + set, x.lacks(set), -2);
            CHECK.due("breaks of " + set, x.breaks(set, 1), -2);
            refused(x, set, 3);
        }
        for (int s : new int[] {0, 15, -1, Integer.MIN_VALUE, Integer.MAX_VALUE}) {
            refused(x, 1, s);
            refusedLimit(x, s);
        }
    }

    private static void refused(SlatePlay x, int set, int s) {
        String of = " of " + set + ", " + s;
        CHECK.due("steps" + of, x.steps(set, s, false), -2);
        CHECK.due("go" + of, x.go(set, s, false), -2);
        CHECK.due("next" + of, x.next(set, s, false), -2);
        CHECK.due("keep" + of, x.keep(set, s), -2);
        CHECK.due("cost" + of, x.cost(set, s), -2);
        CHECK.due("path" + of, x.path(set, s, false, 0), -2);
        CHECK.due("path -1" + of, x.path(set, s, false, -1), -2);
        CHECK.due("ways" + of, x.ways(set, s, false), -2);
        CHECK.due("must" + of, x.must(set, s), -2);
    }

    private static void refusedLimit(SlatePlay x, int s) {
        CHECK.due("reach of " + s, x.reach(s), -2);
        CHECK.due("ever of " + s, x.ever(s), -2);
        CHECK.due("far of " + s, x.far(s, 0), -2);
        CHECK.due("groups of " + s, x.groups(s, 0), -2);
        CHECK.due("made of " + s, x.made(s), -2);
        CHECK.due("apart of " + s, x.apart(0, 0, s), -2);
    }

    private static void withoutSchool() {
        SlatePlay x = new SlatePlay();
        x.row(0, 0, 0);
        refused(x, 0, 1);
        refusedLimit(x, 1);
        CHECK.due("fewest", x.fewest(0, true), -2);
        CHECK.due("within", x.within(0, 0, true), -2);
        CHECK.due("worst", x.worst(0), -2);
        CHECK.due("lacks", x.lacks(0), -2);
        CHECK.due("breaks", x.breaks(0, 1), -2);
        CHECK.due("series", x.series(0, 1), -2);
        CHECK.due("series of nothing", x.series(1, 1), -2);
    }
}
