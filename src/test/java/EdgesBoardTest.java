/** The edges of promises 6 to 18, 42 and 52 and of Term II, a method for each promise. */
public final class EdgesBoardTest {
    private static final Check CHECK = new Check();
    private static final Twins RICH = new Twins(CHECK, Twins::rich);
    private static final Twins NONE = new Twins(CHECK, Twins::withoutSchool);
    private static final int[] NO_SUMS = {-1, 5, 13, 14, 32, Integer.MIN_VALUE, Integer.MAX_VALUE};
    private static final String FULL = "slates 14;num 5;" + "turn 0 by 1;".repeat(13);

    public static void main(String[] args) {
        sum();
        value();
        stands();
        board();
        slates();
        moveRefused();
        moveInOrder();
        moveByNumbers();
        moveChangesNoMore();
        swapRefused();
        swapByNumbers();
        swapChangesNoMore();
        may();
        smudge();
        lend();
        give();
        lose();
        noSlateAtAll();
        clear();
        culprits();
        count();
        CHECK.finish();
    }

    private static void due(String call, long got, long want) {
        CHECK.due(call, got, want);
    }

    private static void sum() {
        for (int v : NO_SUMS) {
            for (int what : new int[] {-1, 0, 5, 6}) {
                RICH.stay("sum(" + v + ", " + what + ")", -2, x -> x.sum(v, what));
            }
        }
        for (int what : new int[] {-1, 6, Integer.MIN_VALUE, Integer.MAX_VALUE}) {
            RICH.stay("sum(0, " + what + ")", -2, x -> x.sum(0, what));
        }
        NONE.stay("sum(0, 0) without SCHOOL", -2, x -> x.sum(0, 0));
        int[][] due = {{0, 5, -1, 0, 3, 0}, {0, 7, -1, 0, 3, 0}, {1, 0, 1, 2, 2, 1}, {5, 2, 3, 3, 1, 2},
            {3, 3, 1, 4, 0, 3}};
        for (int v = 0; v < 5; v++) {
            for (int what = 0; what < 6; what++) {
                int of = v;
                int asked = what;
                RICH.stay("sum(" + v + ", " + what + ")", due[v][what], x -> x.sum(of, asked));
            }
        }
        SlatePlay full = Told.school(FULL);
        due("sum(13, 0) of 14", full.sum(13, 0), 5);
        due("sum(14, 0) of 14", full.sum(14, 0), -2);
        due("13 come of one", full.sum(0, 4), 13);
        due("num 0 has the number 0", Told.school("slates 1;num 0;").sum(0, 1), 0);
        due("a SUM of one twice comes of one", Told.school("slates 1;num 0;add 0 0;").sum(1, 3), 1);
        due("slates alone: sum(0, 0)", Told.school("slates 1;").sum(0, 0), -2);
    }

    private static void value() {
        for (int v : NO_SUMS) {
            RICH.stay("value(" + v + ")", -2, x -> x.value(v));
        }
        NONE.stay("value(0) without SCHOOL", -2, x -> x.value(0));
        int[] due = {5, 7, 12, 15, 105};
        for (int v = 0; v < 5; v++) {
            int of = v;
            RICH.stay("value(" + v + ") is worked rightly, whatever is on the slates", due[v], x -> x.value(of));
        }
        due("value(13)", Told.school(FULL).value(13), 6);
        due("value(14)", Told.school(FULL).value(14), -2);
        due("slates alone: value(0)", Told.school("slates 1;").value(0), -2);
    }

    private static void stands() {
        for (int what : new int[] {-1, 3, Integer.MIN_VALUE, Integer.MAX_VALUE}) {
            RICH.stay("stands(" + what + ")", -2, x -> x.stands(what));
        }
        for (int what = 0; what < 3; what++) {
            int of = what;
            NONE.stay("stands(" + what + ") without SCHOOL", -2, x -> x.stands(of));
            due("slates alone: stands(" + what + ")", Told.school("slates 1;").stands(what), 0);
        }
        RICH.stay("stands(0)", 14, x -> x.stands(0));
        RICH.stay("stands(1): SUM 1 has another number", 12, x -> x.stands(1));
        RICH.stay("stands(2): SUM 2 can't be worked, SUM 1 comes of nothing", 2, x -> x.stands(2));
        SlatePlay all = Told.school(FULL);
        for (int v = 0; v < 14; v++) {
            all.move(v);
        }
        due("all 14 STAND", all.stands(0), 16383);
        due("all 14 are right", all.stands(1), 16383);
        due("none is DOUBTED", all.stands(2), 0);
        all.smudge(0, 6);
        due("13 are right", all.stands(1), 16382);
        due("all are DOUBTED, the num by its number, the turns by it", all.stands(2), 16383);
        all.smudge(0, 5);
        all.smudge(13, 5);
        due("one is DOUBTED", all.stands(2), 8192);
    }

    private static void board() {
        for (int v : NO_SUMS) {
            RICH.stay("board(" + v + ")", -2, x -> x.board(v));
        }
        NONE.stay("board(0) without SCHOOL", -2, x -> x.board(0));
        int[] due = {-1, 9, 12, 15, -1};
        for (int v = 0; v < 5; v++) {
            int of = v;
            RICH.stay("board(" + v + ")", due[v], x -> x.board(of));
        }
        due("the number 0 is no NONE", Told.standing("slates 1;num 0;", 0).board(0), 0);
        SlatePlay full = Told.school(FULL);
        due("board(13)", full.board(13), -1);
        due("board(14)", full.board(14), -2);
    }

    private static void slates() {
        for (int what : new int[] {-1, 4, Integer.MIN_VALUE, Integer.MAX_VALUE}) {
            RICH.stay("slates(" + what + ")", -2, x -> x.slates(what));
        }
        int[] due = {5, 2, 2, 1};
        for (int what = 0; what < 4; what++) {
            int of = what;
            RICH.stay("slates(" + what + ")", due[what], x -> x.slates(of));
            NONE.stay("slates(" + what + ") without SCHOOL", -2, x -> x.slates(of));
        }
        SlatePlay most = Told.school(FULL);
        most.lend(3);
        due("17 slates", most.slates(0), 17);
        due("17 are free", most.slates(1), 17);
        for (int v = 0; v < 14; v++) {
            due("move(" + v + ")", most.move(v), 1);
        }
        due("3 are free", most.slates(1), 3);
        SlatePlay one = Told.standing("slates 1;num 5;", 0);
        due("none is free", one.slates(1), 0);
    }

    private static void moveRefused() {
        for (int v : NO_SUMS) {
            RICH.stay("move(" + v + ")", -2, x -> x.move(v));
        }
        NONE.stay("move(0) without SCHOOL", -2, x -> x.move(0));
        due("slates alone: move(0)", Told.school("slates 1;").move(0), -2);
        RICH.stay("move(2): SUM 0 does not STAND", -5, x -> x.move(2));
        RICH.stay("move(1): another number", -6, x -> x.move(1));
        Twins full = new Twins(CHECK, () -> Told.standing("slates 2;num 5;num 7;num 8;add 0 1;add 0 2;", 0, 1));
        full.stay("move(2): no slate is free", -3, x -> x.move(2));
        full.stay("move(3): no slate is free", -3, x -> x.move(3));
        full.stay("move(4): what it comes of is asked ahead of slates", -5, x -> x.move(4));
        Twins gone = new Twins(CHECK, () -> {
            SlatePlay x = Told.standing("slates 3;num 5;num 7;add 0 1;", 0, 1, 2, 1);
            x.smudge(2, 99);
            return x;
        });
        gone.stay("move(2): what it comes of is asked ahead of its number", -5, x -> x.move(2));
    }

    /** The last free slate is taken, then none is; wiping takes none. */
    private static void moveInOrder() {
        SlatePlay x = Told.school("slates 2;num 5;num 7;num 8;");
        due("the first slate", x.move(0), 1);
        due("the last slate", x.move(1), 1);
        due("no slate", x.move(2), -3);
        due("wiped without a free slate", x.move(1), 0);
        due("on the slate that is free again", x.move(2), 1);
        due("stands(0)", x.stands(0), 5);
        SlatePlay y = Told.school(FULL);
        due("move(13) ahead of what it comes of", y.move(13), -5);
        due("move(14)", y.move(14), -2);
        due("move(0)", y.move(0), 1);
        due("move(13)", y.move(13), 1);
        due("stands(0) with the 14th", y.stands(0), 8193);
        SlatePlay lent = Told.standing("slates 1;num 5;num 7;", 0);
        due("no slate is free", lent.move(1), -3);
        lent.lend(1);
        due("one lent is", lent.move(1), 1);
        SlatePlay lost = Told.standing("slates 2;num 5;num 7;", 0);
        lost.lose(0);
        due("the slate that is left", lost.move(0), 1);
        due("one is lost", lost.move(1), -3);
    }

    private static void moveByNumbers() {
        SlatePlay x = Told.standing("slates 9;num 1;num 2;add 0 1;less 0 1;times 0 1;most 0 1;turn 0 by 999;", 0, 1);
        x.smudge(0, 1000002);
        x.smudge(1, 1000001);
        int[] due = {1000000, 1, 2, 1000002, 998};
        for (int v = 2; v <= 6; v++) {
            due("move(" + v + ")", x.move(v), 1);
            due("board(" + v + ") of what is on the slates", x.board(v), due[v - 2]);
        }
        due("none of these is DOUBTED", x.stands(2), 3);
        x.smudge(0, 1000001);
        due("times is worked otherwise now", x.move(4), -6);
        due("the number stays", x.board(4), 2);
        due("most is worked otherwise now", x.move(5), -6);
        x.smudge(0, 1000002);
        due("times is wiped", x.move(4), 0);
        due("a num with a wrong number", x.move(1), -6);
        x.smudge(1, 2);
        due("a num with its number", x.move(1), 0);
    }

    private static void moveChangesNoMore() {
        RICH.become("a SUM written and wiped", 0, x -> x.move(4) + x.move(4) - 1, x -> 0);
        RICH.become("a SUM wiped and written", 0, x -> x.move(3) + x.move(3) - 1, x -> 0);
        SlatePlay x = Twins.rich();
        due("move(4)", x.move(4), 1);
        due("of a wrong number", x.board(4), 135);
        due("others stay", x.board(1) + x.board(2) + x.board(3), 36);
        due("slates stay", x.slates(0), 5);
    }

    private static void swapRefused() {
        for (int v : NO_SUMS) {
            RICH.stay("swap(" + v + ")", -2, x -> x.swap(v));
        }
        for (int v : new int[] {0, 1, 2, 4}) {
            RICH.stay("swap(" + v + ") of no turn", -2, x -> x.swap(v));
        }
        RICH.stay("swap(103)", -2, x -> x.swap(103));
        NONE.stay("swap(0) without SCHOOL", -2, x -> x.swap(0));
        RICH.stay("swap(3): both STAND", -5, x -> x.swap(3));
        new Twins(CHECK, () -> Told.standing(Twins.SCHOOL, 0, 1))
                .stay("swap(3): neither STANDS", -5, x -> x.swap(3));
        due("swap(13) of 14", Told.standing(FULL, 0).swap(13), 1);
        due("swap(14) of 14", Told.standing(FULL, 0).swap(14), -2);
    }

    private static void swapByNumbers() {
        int[][] forth = {{0, 1, 1}, {1000001, 1, 1000002}, {1000002, 1, 0}, {1000002, 999, 998}, {999003, 999, 1000002},
            {999004, 999, 0}};
        for (int[] f : forth) {
            SlatePlay x = Told.standing("slates 1;num 7;turn 0 by " + f[1] + ";", 0);
            x.smudge(0, f[0]);
            due("swap of " + f[0], x.swap(1), 1);
            due("its number", x.board(1), f[2]);
            due("what it was turned from is gone", x.board(0), -1);
            due("swap back", x.swap(1), 0);
            due("its number back", x.board(0), f[0]);
            due("the turn is gone", x.board(1), -1);
        }
        SlatePlay x = Told.standing("slates 1;num 7;turn 0 by 5;", 0, 101);
        x.smudge(1, 4);
        due("back below 0", x.swap(1), 0);
        due("it wraps around", x.board(0), 1000002);
        x.swap(1);
        x.smudge(1, 5);
        x.swap(1);
        due("back to 0", x.board(0), 0);
    }

    private static void swapChangesNoMore() {
        Twins one = new Twins(CHECK, () -> {
            SlatePlay x = Told.standing("slates 2;num 5;num 7;add 0 1;turn 0 by 9;", 0, 1);
            x.smudge(0, 1000000);
            return x;
        });
        one.become("there and back without a free slate", 1, x -> x.swap(3) + x.swap(3), x -> 0);
        SlatePlay x = Told.standing("slates 2;num 5;num 7;add 0 1;turn 0 by 9;", 0, 1);
        due("swap takes no slate", x.swap(3), 1);
        due("slates(1)", x.slates(1), 0);
        due("stands(0)", x.stands(0), 10);
        due("others stay", x.board(1), 7);
        // What comes of a SUM does not matter to its SWAP.
        SlatePlay y = Told.standing("slates 3;num 5;turn 0 by 9;add 1 1;", 0, 1, 2, 0);
        due("swap back under a SUM", y.swap(1), 0);
        due("that SUM STANDS still", y.board(2), 28);
    }

    private static void may() {
        for (int what : new int[] {-1, 2, Integer.MIN_VALUE, Integer.MAX_VALUE}) {
            RICH.stay("may(" + what + ")", -2, x -> x.may(what));
        }
        NONE.stay("may(0) without SCHOOL", -2, x -> x.may(0));
        NONE.stay("may(1) without SCHOOL", -2, x -> x.may(1));
        RICH.stay("may(0)", 25, x -> x.may(0));
        RICH.stay("may(1)", 0, x -> x.may(1));
        due("slates alone: may(0)", Told.school("slates 1;").may(0), 0);
        due("slates alone: may(1)", Told.school("slates 1;").may(1), 0);
        SlatePlay full = Told.standing(FULL, 0);
        due("14 MOVES", full.may(0), 16383);
        due("13 SWAPS", full.may(1), 16382);
        SlatePlay x = Told.standing("slates 2;num 5;num 7;num 8;turn 2 by 1;turn 0 by 1;", 0);
        due("with the last slate free", x.may(0), 1 + 2 + 4 + 16);
        x.move(1);
        due("with none free", x.may(0), 3);
        due("a SWAP needs none", x.may(1), 16);
        x.smudge(0, 6);
        due("not with another number", x.may(0), 2);
        due("a SWAP with any number", x.may(1), 16);
    }

    private static void smudge() {
        for (int v : NO_SUMS) {
            RICH.stay("smudge(" + v + ", 0)", -2, x -> x.smudge(v, 0));
        }
        for (int number : new int[] {-1, 1000003, Integer.MIN_VALUE, Integer.MAX_VALUE}) {
            RICH.stay("smudge(1, " + number + ")", -2, x -> x.smudge(1, number));
            RICH.stay("smudge(0, " + number + "): the number ahead of what STANDS", -2, x -> x.smudge(0, number));
        }
        RICH.stay("smudge(0, 5): it does not STAND", -5, x -> x.smudge(0, 5));
        RICH.stay("smudge(4, 5): it does not STAND", -5, x -> x.smudge(4, 5));
        NONE.stay("smudge(0, 0) without SCHOOL", -2, x -> x.smudge(0, 0));
        RICH.stay("smudge by the number that is there", 9, x -> x.smudge(1, 9));
        SlatePlay x = Twins.rich();
        due("smudge(2, 0)", x.smudge(2, 0), 12);
        due("board(2)", x.board(2), 0);
        due("smudge(2, 1000002)", x.smudge(2, 1000002), 0);
        due("board(2) then", x.board(2), 1000002);
        RICH.become("smudge and back", 1000002, y -> y.smudge(2, 1000002) * 0 + y.smudge(2, 12), y -> 0);
        SlatePlay full = Told.standing(FULL, 0, 13);
        due("smudge(13, 5)", full.smudge(13, 5), 6);
        due("smudge(14, 5)", full.smudge(14, 5), -2);
        due("smudge(12, 5)", full.smudge(12, 5), -5);
        SlatePlay again = Told.standing("slates 1;num 5;", 0);
        again.smudge(0, 8);
        again.clear();
        again.move(0);
        due("written anew, the number is worked anew", again.board(0), 5);
    }

    private static void lend() {
        for (int n : new int[] {0, -1, 4, Integer.MIN_VALUE, Integer.MAX_VALUE}) {
            RICH.stay("lend(" + n + ")", -2, x -> x.lend(n));
        }
        for (int n = 1; n <= 3; n++) {
            int of = n;
            NONE.stay("lend(" + n + ") without SCHOOL", -2, x -> x.lend(of));
            due("slates alone: lend(" + n + ")", Told.school("slates 1;").lend(n), n);
        }
        RICH.become("lend(1) with two lent", 3, x -> x.lend(1), x -> {
            x.give(2);
            return x.lend(3);
        });
        RICH.stay("lend(2) with two lent", -3, x -> x.lend(2));
        RICH.stay("lend(3) with two lent", -3, x -> x.lend(3));
        SlatePlay x = Told.school("slates 14;");
        due("lend(3)", x.lend(3), 3);
        due("lend(1) with three lent", x.lend(1), -3);
        due("slates(0)", x.slates(0), 17);
        due("slates(2)", x.slates(2), 3);
    }

    private static void give() {
        for (int n : new int[] {0, -1, 4, Integer.MIN_VALUE, Integer.MAX_VALUE}) {
            RICH.stay("give(" + n + ")", -2, x -> x.give(n));
        }
        for (int n = 1; n <= 3; n++) {
            int of = n;
            NONE.stay("give(" + n + ") without SCHOOL", -2, x -> x.give(of));
        }
        RICH.stay("give(3) with two lent", -3, x -> x.give(3));
        RICH.become("all that are lent and free", 0, x -> x.give(2), x -> x.give(1) + x.give(1));
        RICH.become("lent and given", 2, x -> x.lend(1) * 0 + x.give(1), x -> 0);
        due("give(1) with none lent", Told.school("slates 3;").give(1), -3);
        Twins one = new Twins(CHECK, () -> {
            SlatePlay x = Told.standing("slates 1;num 5;num 7;", 0);
            x.lend(2);
            x.move(1);
            return x;
        });
        one.stay("give(2) with one free", -5, x -> x.give(2));
        one.stay("give(3): what is lent is asked first", -3, x -> x.give(3));
        SlatePlay x = Told.standing("slates 1;num 5;num 7;", 0);
        x.lend(1);
        x.move(1);
        due("give(1) with none free", x.give(1), -5);
        x.move(0);
        due("give(1) with one free", x.give(1), 0);
        due("slates(0)", x.slates(0), 1);
        due("slates(1)", x.slates(1), 0);
        due("it STANDS", x.stands(0), 2);
    }

    private static void lose() {
        for (int v : NO_SUMS) {
            RICH.stay("lose(" + v + ")", -2, x -> x.lose(v));
        }
        NONE.stay("lose(0) without SCHOOL", -2, x -> x.lose(0));
        RICH.stay("lose(0): it does not STAND", -5, x -> x.lose(0));
        RICH.stay("lose(4): it does not STAND", -5, x -> x.lose(4));
        Twins one = new Twins(CHECK, () -> Told.standing("slates 1;num 5;num 7;", 0));
        one.stay("the last slate", -3, x -> x.lose(0));
        one.stay("what does not STAND is asked ahead of the last slate", -5, x -> x.lose(1));
        SlatePlay two = Told.standing("slates 2;num 5;num 7;", 0, 1);
        due("the last but one", two.lose(0), 1);
        due("the last", two.lose(1), -3);
        due("what STANDS", two.stands(0), 2);
        SlatePlay x = Twins.rich();
        due("lose(2)", x.lose(2), 4);
        due("slates(3)", x.slates(3), 2);
        due("free ones stay", x.slates(1), 2);
        due("lent ones stay", x.slates(2), 2);
        due("stands(0)", x.stands(0), 10);
        due("board(2)", x.board(2), -1);
        due("others stay", x.board(1) + x.board(3), 24);
        // A number that is wrong does not matter, nor that it can't be worked.
        due("lose(1)", x.lose(1), 3);
        due("lose(3)", x.lose(3), 2);
        SlatePlay lent = Told.standing("slates 1;num 5;", 0);
        lent.lend(1);
        due("not the last, with one lent", lent.lose(0), 1);
        lent.move(0);
        due("the last, with one lent and one lost", lent.lose(0), -3);
    }

    /** One told, one lent, one lost, and the one that is left given back. */
    private static void noSlateAtAll() {
        Twins none = new Twins(CHECK, () -> {
            SlatePlay x = Told.school("slates 1;num 5;turn 0 by 1;");
            x.lend(1);
            x.move(0);
            x.lose(0);
            x.give(1);
            Told.row(x, 0, 0, 0, 0);
            x.row(1, 0, 0);
            return x;
        });
        int[] due = {0, 0, 0, 1};
        for (int what = 0; what < 4; what++) {
            int of = what;
            none.stay("slates(" + what + ") of none", due[what], x -> x.slates(of));
        }
        none.stay("move(0) without any", -3, x -> x.move(0));
        none.stay("swap(1) without any", -5, x -> x.swap(1));
        none.stay("may(0) without any", 0, x -> x.may(0));
        none.stay("may(1) without any", 0, x -> x.may(1));
        none.stay("lose(0) without any", -5, x -> x.lose(0));
        none.stay("give(1) without any", -3, x -> x.give(1));
        none.stay("clear() without any", 0, SlatePlay::clear);
        none.stay("judge(0) without any", 0, x -> x.judge(0));
        none.stay("ends(0) without any", 0, x -> x.ends(0));
        none.stay("backwards(0) without any", 0, x -> x.backwards(0));
        none.stay("backwards(1) of no MOVES", 1, x -> x.backwards(1));
        none.stay("walk(3, 9) without any", 0, x -> x.walk(3, 9));
        none.stay("seen(3, 9) without any", 1, x -> x.seen(3, 9));
        none.stay("worst(0) without any", -1, x -> x.worst(0));
        none.stay("breaks(0, 1) without any", -5, x -> x.breaks(0, 1));
        none.stay("lacks(0) without any", 0, x -> x.lacks(0));
        none.stay("lacks(3) without any", 2, x -> x.lacks(3));
        // A number of slates that is told does not mind those there are.
        none.stay("go(1, 1) without any", 1, x -> x.go(1, 1, true));
        none.stay("reach(1) without any", 3, x -> x.reach(1));
        none.become("lend(2) to none", 2, x -> x.lend(2), x -> x.lend(1) + x.lend(1));
        SlatePlay x = Told.school("slates 1;num 5;");
        x.lend(3);
        for (int left = 3; left >= 1; left--) {
            x.move(0);
            due("lose(0) down to " + left, x.lose(0), left);
        }
        x.move(0);
        due("the last one is not lost", x.lose(0), -3);
        due("three are lost", x.slates(3), 3);
        due("give(1) of the last, which is not free", x.give(1), -5);
        due("wiped", x.move(0), 0);
        due("give(2) of the last", x.give(2), -5);
        due("give(1) of the last", x.give(1), 2);
        due("none is left", x.slates(0), 0);
        due("give(1) of none", x.give(1), -5);
        due("lend(1) to none", x.lend(1), 3);
        due("one again", x.move(0), 1);
    }

    private static void clear() {
        NONE.stay("clear() without SCHOOL", 0, SlatePlay::clear);
        due("slates alone: clear()", Told.school("slates 1;").clear(), 0);
        SlatePlay x = Twins.rich();
        due("clear()", x.clear(), 3);
        due("stands(0)", x.stands(0), 0);
        due("stands(2)", x.stands(2), 0);
        due("slates(0)", x.slates(0), 5);
        due("slates(1)", x.slates(1), 5);
        due("slates(2)", x.slates(2), 2);
        due("slates(3)", x.slates(3), 1);
        due("board(1)", x.board(1), -1);
        due("clear() again", x.clear(), 0);
        SlatePlay full = Told.school(FULL);
        for (int v = 0; v < 14; v++) {
            full.move(v);
        }
        due("clear() of 14", full.clear(), 14);
        RICH.become("cleared by hand, gone back to", 3, y -> {
            int stood = y.clear();
            y.back(2);
            return stood;
        }, y -> y.back(2));
    }

    private static void culprits() {
        NONE.stay("culprits() without SCHOOL", -2, SlatePlay::culprits);
        due("slates alone: culprits()", Told.school("slates 1;").culprits(), 0);
        // SUM 1 is the one with a wrong number; 2 and 3 may be as they are, but do not mend it.
        RICH.stay("culprits()", 2, SlatePlay::culprits);
        due("nothing STANDS", Told.school(FULL).culprits(), 0);
        SlatePlay x = Told.standing("slates 9;num 5;num 7;add 0 1;", 0, 1, 2);
        due("nothing is DOUBTED", x.culprits(), 7);
        x.smudge(0, 6);
        due("SUM 0 alone", x.culprits(), 1);
        x.smudge(2, 13);
        due("2 fits to 0 as it is, 0 is DOUBTED; mended, 2 is", x.culprits(), 0);
        SlatePlay y = Told.standing("slates 9;num 5;turn 0 by 1;turn 1 by 1;", 0, 1, 2, 1);
        y.smudge(2, 50);
        due("a wrong one that can't be worked: nothing is DOUBTED", y.culprits(), 5);
        y.smudge(0, 6);
        due("the num is DOUBTED then", y.culprits(), 1);
        SlatePlay z = Told.standing("slates 9;num 5;turn 0 by 1;turn 1 by 1;", 0, 1);
        z.smudge(1, 9);
        z.move(2);
        z.move(1);
        due("1 is not wiped", z.stands(0), 7);
        due("1 is DOUBTED; with it mended, 2 is", z.culprits(), 0);
        z.smudge(1, 6);
        due("2 is DOUBTED by 1", z.stands(2), 4);
        due("2 mends it", z.culprits(), 4);
    }

    private static void count() {
        for (int what : new int[] {-1, 8, Integer.MIN_VALUE, Integer.MAX_VALUE}) {
            RICH.stay("count(" + what + ")", -1, x -> x.count(what));
            NONE.stay("count(" + what + ") without SCHOOL", -1, x -> x.count(what));
        }
        int[] due = {5, 1, 6, 15, 3, 3, 16, 3};
        int[] without = {0, 0, 0, 14, 0, 0, 0, 1};
        for (int what = 0; what < 8; what++) {
            int of = what;
            RICH.stay("count(" + what + ")", due[what], x -> x.count(of));
            NONE.stay("count(" + what + ") without SCHOOL", without[what], x -> x.count(of));
        }
        SlatePlay full = Told.school(FULL);
        int[] most = {14, 13, 15, 0, 0, 1, 16382, 0};
        for (int what = 0; what < 8; what++) {
            due("count(" + what + ") of 14", full.count(what), most[what]);
        }
        for (int slot = 0; slot < 4; slot++) {
            full.row(slot, 0, slot);
        }
        due("all SLOTS, one with a row of none", full.count(7), 4);
        due("slates alone: count(2)", Told.school("slates 1;").count(2), 1);
        due("slates alone: count(6)", Told.school("slates 1;").count(6), 0);
        due("one num: count(6)", Told.school("slates 1;num 1;").count(6), 1);
    }
}
