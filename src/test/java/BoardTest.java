/** Promises 6 to 18, 42 and 52: SUMS, what STANDS, moves, slates, culprits, counts. */
public final class BoardTest {
    private static final Check CHECK = new Check();
    private static final String ALL_SORTS =
            "slates 5;num 1000000;num 7;add 0 1;less 1 0;times 0 0;most 1 3;turn 5 by 999;turn 6 by 1;";

    public static void main(String[] args) {
        sums();
        values();
        moves();
        numbersOnSlates();
        swaps();
        whatMayBe();
        smudges();
        lending();
        losing();
        clearing();
        culprits();
        counts();
        withoutSchool();
        CHECK.finish();
    }

    private static void sums() {
        SlatePlay x = Told.school(ALL_SORTS);
        int[][] due = {
            {0, 1000000, -1, 0, 6, 0},
            {0, 7, -1, 0, 5, 0},
            {1, 0, 1, 2, 0, 1},
            {2, 1, 0, 2, 3, 1},
            {3, 0, 0, 1, 0, 1},
            {4, 1, 3, 3, 2, 2},
            {5, 5, 999, 4, 1, 3},
            {5, 6, 1, 5, 0, 4},
        };
        for (int v = 0; v < due.length; v++) {
            for (int what = 0; what < 6; what++) {
                CHECK.due("sum(" + v + ", " + what + ")", x.sum(v, what), due[v][what]);
            }
            CHECK.due("sum(" + v + ", 6)", x.sum(v, 6), -2);
            CHECK.due("sum(" + v + ", -1)", x.sum(v, -1), -2);
        }
        CHECK.due("sum(8, 0)", x.sum(8, 0), -2);
        CHECK.due("sum(-1, 0)", x.sum(-1, 0), -2);
        CHECK.due("sum(14, 0)", x.sum(14, 0), -2);
    }

    private static void values() {
        SlatePlay x = Told.school(ALL_SORTS);
        int[] due = {1000000, 7, 4, 10, 9, 10, 1009, 1010};
        for (int v = 0; v < due.length; v++) {
            CHECK.due("value(" + v + ")", x.value(v), due[v]);
        }
        CHECK.due("value(8)", x.value(8), -2);
        CHECK.due("value(-1)", x.value(-1), -2);
        SlatePlay y = Told.school("slates 1;num 1000002;times 0 0;add 0 0;turn 0 by 1;less 3 0;");
        CHECK.due("greatest times itself", y.value(1), 1);
        CHECK.due("greatest and itself", y.value(2), 1000001);
        CHECK.due("greatest turned by 1", y.value(3), 0);
        CHECK.due("0 less greatest", y.value(4), 1);
    }

    private static void moves() {
        SlatePlay x = Told.school("slates 2;num 5;num 7;add 0 1;");
        CHECK.due("move(2) from nothing", x.move(2), -5);
        CHECK.due("move(0)", x.move(0), 1);
        CHECK.due("move(2) of one", x.move(2), -5);
        CHECK.due("move(1)", x.move(1), 1);
        CHECK.due("move(2) without a slate", x.move(2), -3);
        CHECK.due("move(3)", x.move(3), -2);
        CHECK.due("move(-1)", x.move(-1), -2);
        CHECK.due("stands(0)", x.stands(0), 3);
        x.lend(1);
        CHECK.due("move(2) lent", x.move(2), 1);
        CHECK.due("board(2)", x.board(2), 12);
        CHECK.due("wipe 0", x.move(0), 0);
        CHECK.due("board(0) wiped", x.board(0), -1);
        CHECK.due("wipe 2 without 0", x.move(2), -5);
        CHECK.due("stands(0) behind", x.stands(0), 6);
        CHECK.due("board(3)", x.board(3), -2);
        CHECK.due("board(-1)", x.board(-1), -2);
    }

    private static void numbersOnSlates() {
        SlatePlay x = Told.standing("slates 4;num 5;num 7;less 0 1;turn 2 by 9;", 0, 1);
        x.smudge(1, 4);
        CHECK.due("written of a wrong one", x.move(2), 1);
        CHECK.due("its number", x.board(2), 1);
        CHECK.due("stands(1)", x.stands(1), 1);
        CHECK.due("stands(2)", x.stands(2), 2);
        CHECK.due("wiped of a wrong one", x.move(2), 0);
        x.move(2);
        x.smudge(1, 7);
        CHECK.due("move(2) by another number", x.move(2), -6);
        CHECK.due("stands(1) then", x.stands(1), 3);
        CHECK.due("stands(2) then", x.stands(2), 4);
        x.move(3);
        CHECK.due("turn of a wrong one", x.board(3), 10);
        x.move(1);
        CHECK.due("none is DOUBTED that can't be worked", x.stands(2), 0);
        CHECK.due("stands(3)", x.stands(3), -2);
        CHECK.due("stands(-1)", x.stands(-1), -2);
        x.smudge(0, 6);
        CHECK.due("a num is not wiped with a wrong number", x.move(0), -6);
        CHECK.due("a wrong num is DOUBTED", x.stands(2), 1);
    }

    private static void swaps() {
        SlatePlay x = Told.school("slates 1;num 3;turn 0 by 5;turn 1 by 1;");
        CHECK.due("swap(0) is no turn", x.swap(0), -2);
        CHECK.due("swap(3)", x.swap(3), -2);
        CHECK.due("swap(-1)", x.swap(-1), -2);
        CHECK.due("neither STANDS", x.swap(1), -5);
        x.move(0);
        CHECK.due("to the turn", x.swap(1), 1);
        CHECK.due("its number", x.board(1), 8);
        CHECK.due("stands(0)", x.stands(0), 2);
        CHECK.due("to the next turn", x.swap(2), 1);
        x.smudge(2, 0);
        CHECK.due("back", x.swap(2), 0);
        CHECK.due("number below 0", x.board(1), 1000002);
        CHECK.due("back to the num", x.swap(1), 0);
        CHECK.due("its number then", x.board(0), 999997);
        CHECK.due("forth", x.swap(1), 1);
        x.lend(1);
        x.move(0);
        CHECK.due("both STAND", x.swap(1), -5);
        CHECK.due("stands(0) at last", x.stands(0), 3);
    }

    private static void whatMayBe() {
        SlatePlay x = Told.school("slates 2;num 3;turn 0 by 5;add 0 0;");
        CHECK.due("may(0) of nothing", x.may(0), 1);
        CHECK.due("may(1) of nothing", x.may(1), 0);
        x.move(0);
        CHECK.due("may(0)", x.may(0), 7);
        CHECK.due("may(1)", x.may(1), 2);
        x.move(2);
        CHECK.due("may(0) of no free slate", x.may(0), 5);
        CHECK.due("may(1) of no free slate", x.may(1), 2);
        x.smudge(2, 1);
        CHECK.due("may(0) of a wrong number", x.may(0), 1);
        x.swap(1);
        CHECK.due("may(0) of the turn", x.may(0), 0);
        CHECK.due("may(1) of the turn", x.may(1), 2);
        CHECK.due("may(2)", x.may(2), -2);
        CHECK.due("may(-1)", x.may(-1), -2);
    }

    private static void smudges() {
        SlatePlay x = Told.standing("slates 2;num 3;add 0 0;", 0);
        CHECK.due("smudge", x.smudge(0, 1000002), 3);
        CHECK.due("board(0)", x.board(0), 1000002);
        CHECK.due("smudge by 0", x.smudge(0, 0), 1000002);
        CHECK.due("smudge by the same", x.smudge(0, 0), 0);
        CHECK.due("number too great", x.smudge(0, 1000003), -2);
        CHECK.due("number below 0", x.smudge(0, -1), -2);
        CHECK.due("smudge(2)", x.smudge(2, 1), -2);
        CHECK.due("smudge(-1)", x.smudge(-1, 1), -2);
        CHECK.due("smudge of none that STANDS", x.smudge(1, 1), -5);
        CHECK.due("number asked first", x.smudge(1, 1000003), -2);
        CHECK.due("board(0) stays", x.board(0), 0);
    }

    private static void lending() {
        SlatePlay x = Told.standing("slates 1;num 3;num 4;", 0);
        CHECK.due("lend(0)", x.lend(0), -2);
        CHECK.due("lend(4)", x.lend(4), -2);
        CHECK.due("lend(-1)", x.lend(-1), -2);
        CHECK.due("lend(2)", x.lend(2), 2);
        CHECK.due("lend(2) again", x.lend(2), -3);
        CHECK.due("slates(0)", x.slates(0), 3);
        CHECK.due("slates(1)", x.slates(1), 2);
        CHECK.due("slates(2)", x.slates(2), 2);
        CHECK.due("slates(3)", x.slates(3), 0);
        CHECK.due("slates(4)", x.slates(4), -2);
        CHECK.due("slates(-1)", x.slates(-1), -2);
        CHECK.due("lend(1)", x.lend(1), 3);
        CHECK.due("give(0)", x.give(0), -2);
        CHECK.due("give(4)", x.give(4), -2);
        CHECK.due("give(1)", x.give(1), 2);
        CHECK.due("give(3)", x.give(3), -3);
        x.move(1);
        CHECK.due("give(2) with one free", x.give(2), -5);
        CHECK.due("give(3) asks what is lent first", x.give(3), -3);
        CHECK.due("give(1) with one free", x.give(1), 1);
        CHECK.due("slates(1) then", x.slates(1), 0);
        CHECK.due("give(1) with none free", x.give(1), -5);
        CHECK.due("slates(2) then", x.slates(2), 1);
    }

    private static void losing() {
        SlatePlay x = Told.standing("slates 2;num 3;num 4;", 0);
        CHECK.due("lose(2)", x.lose(2), -2);
        CHECK.due("lose(-1)", x.lose(-1), -2);
        CHECK.due("lose(1)", x.lose(1), -5);
        CHECK.due("lose(0)", x.lose(0), 1);
        CHECK.due("stands(0)", x.stands(0), 0);
        CHECK.due("slates(3)", x.slates(3), 1);
        CHECK.due("lose(0) again", x.lose(0), -5);
        x.move(1);
        CHECK.due("the last slate", x.lose(1), -3);
        CHECK.due("it STANDS still", x.stands(0), 2);
        x.lend(3);
        CHECK.due("no more the last", x.lose(1), 3);
        CHECK.due("slates(0)", x.slates(0), 3);
        CHECK.due("slates(1)", x.slates(1), 3);
        CHECK.due("slates(2)", x.slates(2), 3);
        CHECK.due("slates(3) then", x.slates(3), 2);
        CHECK.due("give all", x.give(3), 0);
        CHECK.due("no slate is left", x.slates(0), 0);
        CHECK.due("move without slates", x.move(0), -3);
        CHECK.due("lacks without slates", x.lacks(1), 1);
        CHECK.due("lacks nothing", x.lacks(0), 0);
        CHECK.due("walk without slates", x.walk(1, 9), 0);
        CHECK.due("seen without slates", x.seen(1, 9), 1);
    }

    private static void clearing() {
        SlatePlay x = Told.standing("slates 3;num 3;num 4;add 0 1;", 0, 1, 2);
        x.smudge(2, 9);
        CHECK.due("clear()", x.clear(), 3);
        CHECK.due("stands(0)", x.stands(0), 0);
        CHECK.due("slates(1)", x.slates(1), 3);
        CHECK.due("clear() again", x.clear(), 0);
    }

    private static void culprits() {
        SlatePlay x = Told.standing("slates 4;num 3;num 4;add 0 1;times 2 1;", 0, 1, 2, 3);
        CHECK.due("of right ones", x.culprits(), 15);
        x.smudge(2, 9);
        CHECK.due("of one wrong", x.culprits(), 4);
        x.smudge(3, 36);
        CHECK.due("2 and what is worked of it", x.culprits(), 0);
        x.clear();
        CHECK.due("of nothing", x.culprits(), 0);
        x.move(0);
        x.smudge(0, 1);
        x.move(1);
        x.move(2);
        CHECK.due("a wrong num, worked on", x.culprits(), 0);
        SlatePlay y = Told.standing("slates 4;num 3;add 0 0;", 0, 1);
        y.smudge(1, 7);
        CHECK.due("the last one alone", y.culprits(), 2);
        SlatePlay z = Told.standing("slates 4;num 3;turn 0 by 2;turn 1 by 2;", 0, 1, 2);
        z.move(1);
        z.smudge(0, 8);
        z.smudge(2, 9);
        CHECK.due("one alone can be DOUBTED", z.culprits(), 1);
        z.move(1);
        CHECK.due("nothing was written there", z.stands(0), 7);
        CHECK.due("two are DOUBTED then", z.stands(2), 5);
        CHECK.due("none alone mends it", z.culprits(), 0);
    }

    private static void counts() {
        SlatePlay x = Told.standing(ALL_SORTS, 0, 1);
        x.feed(1, 2, 3, 4, 5);
        x.row(3, 0, 0);
        x.row(1, 3, 60);
        int[] due = {8, 2, 9, 20, 2, 4, 4 + 16 + 128, 2, -1};
        for (int what = 0; what < due.length; what++) {
            CHECK.due("count(" + what + ")", x.count(what), due[what]);
        }
        CHECK.due("count(-1)", x.count(-1), -1);
    }

    private static void withoutSchool() {
        SlatePlay x = new SlatePlay();
        CHECK.due("sum", x.sum(0, 0), -2);
        CHECK.due("value", x.value(0), -2);
        CHECK.due("board", x.board(0), -2);
        CHECK.due("slates", x.slates(0), -2);
        CHECK.due("move", x.move(0), -2);
        CHECK.due("swap", x.swap(0), -2);
        CHECK.due("may", x.may(0), -2);
        CHECK.due("smudge", x.smudge(0, 0), -2);
        CHECK.due("lend", x.lend(1), -2);
        CHECK.due("give", x.give(1), -2);
        CHECK.due("lose", x.lose(0), -2);
        CHECK.due("culprits", x.culprits(), -2);
    }
}
