/** Promises 19 to 21 and 55 to 57: rows judged, and SLOTS. */
public final class RowsTest {
    private static final Check CHECK = new Check();
    private static final String CHAIN = "slates 3;num 1;add 0 0;add 1 1;add 2 2;";

    public static void main(String[] args) {
        judged();
        swapsJudged();
        numbersJudged();
        refused();
        rows();
        widths();
        pastes();
        CHECK.finish();
    }

    private static void judged() {
        SlatePlay x = Told.standing(CHAIN, 0, 1, 2);
        Told.row(x, 0, 0, 0, 3, 2, 1);
        CHECK.due("judge", x.judge(0), 3);
        CHECK.due("ends", x.ends(0), 10);
        CHECK.due("backwards, some can't be", x.backwards(0), 0);
        CHECK.due("in thought", x.stands(0), 7);
        Told.row(x, 3, 2, 0, 3, 2);
        CHECK.due("judge all", x.judge(3), 3);
        CHECK.due("ends of all", x.ends(3), 10);
        CHECK.due("backwards", x.backwards(3), 1);
        x.write(3, 2, 9);
        CHECK.due("judge to no SUM", x.judge(3), 2);
        CHECK.due("ends at no SUM", x.ends(3), 14);
        CHECK.due("backwards with no SUM", x.backwards(3), 0);
        Told.row(x, 1, 1);
        CHECK.due("judge of none", x.judge(1), 0);
        CHECK.due("ends of none", x.ends(1), 7);
        CHECK.due("backwards of none", x.backwards(1), 1);
        Told.row(x, 1, 1, 3);
        CHECK.due("judge without a free slate", x.judge(1), 0);
        x.lend(1);
        CHECK.due("judge with a slate lent", x.judge(1), 1);
        for (long odd : new long[] {4, 99, 100, 103, 104, 114, -1, Long.MIN_VALUE, Long.MAX_VALUE, 1L << 32}) {
            Told.row(x, 2, 3, odd);
            CHECK.due("judge of " + odd, x.judge(2), 0);
            CHECK.due("backwards of " + odd, x.backwards(2), 0);
        }
    }

    private static void swapsJudged() {
        SlatePlay x = Told.standing("slates 1;num 1000002;turn 0 by 5;turn 1 by 1;", 0);
        Told.row(x, 0, 0, 101, 102, 102, 101, 0, 0, 101);
        CHECK.due("judge", x.judge(0), 7);
        CHECK.due("ends", x.ends(0), 2);
        CHECK.due("backwards", x.backwards(0), 1);
        Told.row(x, 0, 0, 101, 101, 102);
        CHECK.due("judge of a swap that can't be", x.judge(0), 2);
        Told.row(x, 0, 0, 100);
        CHECK.due("judge of no turn", x.judge(0), 0);
        SlatePlay y = Told.school("slates 3;num 1;turn 0 by 1;turn 0 by 2;");
        Told.tell(y, "slates 3;num 1;turn 0 by 1;");
        y.move(0);
        Told.row(y, 0, 0, 102);
        CHECK.due("judge of a turn of an earlier SCHOOL", y.judge(0), 0);
        Told.row(x, 0, 0, 101 + 256);
        CHECK.due("judge of a number cut", x.judge(0), 1);
    }

    private static void numbersJudged() {
        SlatePlay x = Told.standing("slates 3;num 1;add 0 0;add 1 1;", 0, 1);
        x.smudge(1, 7);
        Told.row(x, 0, 0, 2, 2, 1);
        CHECK.due("judge by numbers", x.judge(0), 2);
        CHECK.due("ends by numbers", x.ends(0), 3);
        CHECK.due("backwards by numbers", x.backwards(0), 0);
        CHECK.due("numbers stay", x.board(1), 7);
        Told.row(x, 0, 0, 2, 0);
        CHECK.due("backwards of wrong numbers", x.backwards(0), 1);
        x.smudge(1, 2);
        Told.row(x, 0, 0, 2, 2, 1);
        CHECK.due("judge by right numbers", x.judge(0), 3);
        CHECK.due("backwards by right numbers", x.backwards(0), 1);
    }

    private static void refused() {
        SlatePlay x = Told.school(CHAIN);
        for (int slot : new int[] {-1, 4, Integer.MAX_VALUE, Integer.MIN_VALUE}) {
            CHECK.due("judge(" + slot + ")", x.judge(slot), -2);
            CHECK.due("ends(" + slot + ")", x.ends(slot), -2);
            CHECK.due("backwards(" + slot + ")", x.backwards(slot), -2);
            CHECK.due("row(" + slot + ")", x.row(slot, 0, 1), -2);
            CHECK.due("write(" + slot + ")", x.write(slot, 0, 1), -2);
            CHECK.due("paste(" + slot + ")", x.paste(slot, 0, 0, 0, 0), -2);
            CHECK.due("paste to " + slot, x.paste(0, 0, slot, 0, 0), -2);
        }
        CHECK.due("judge of nothing", x.judge(3), -6);
        CHECK.due("ends of nothing", x.ends(3), -6);
        CHECK.due("backwards of nothing", x.backwards(3), -6);
        SlatePlay none = new SlatePlay();
        none.row(0, 0, 1);
        CHECK.due("judge without SCHOOL", none.judge(0), -2);
        CHECK.due("ends without SCHOOL", none.ends(0), -2);
        CHECK.due("backwards without SCHOOL", none.backwards(0), -2);
    }

    private static void rows() {
        SlatePlay x = Told.standing(CHAIN, 0);
        CHECK.due("row of 60", x.row(0, 3, 60), 0);
        CHECK.due("row of 61", x.row(1, 3, 61), -2);
        CHECK.due("row of -1", x.row(0, 3, -1), -3);
        CHECK.due("row of WIDTH 4", x.row(0, 4, -1), -2);
        CHECK.due("row of WIDTH -1", x.row(0, -1, 1), -2);
        CHECK.due("refused rows leave the SLOT", x.write(0, 59, 1), 0);
        CHECK.due("write beyond", x.write(0, 60, 1), -7);
        CHECK.due("write below 0", x.write(0, -1, 1), -7);
        CHECK.due("write to nothing", x.write(1, 0, 1), -6);
        CHECK.due("60 are judged, the last can't be", x.judge(0), 59);
        CHECK.due("count(7)", x.count(7), 1);
        x.write(0, 0, 9);
        CHECK.due("in place of another", x.row(0, 2, 2), 0);
        CHECK.due("all 0", x.judge(0), 2);
        CHECK.due("row of none", x.row(0, 2, 0), 0);
        CHECK.due("write to none", x.write(0, 0, 1), -7);
        CHECK.due("count(7) with a row of none", x.count(7), 1);
    }

    private static void widths() {
        SlatePlay x = Told.school(CHAIN);
        long[] ones = {0x100, 0x10000, 0x100000000L};
        for (int width = 0; width < 4; width++) {
            for (int above = 0; above < 3; above++) {
                Told.row(x, 0, width, ones[above]);
                CHECK.due("WIDTH " + width + " of " + ones[above], x.judge(0), above >= width ? 1 : 0);
            }
            Told.row(x, 0, width, -1);
            CHECK.due("WIDTH " + width + " of -1", x.judge(0), 0);
        }
    }

    private static void pastes() {
        SlatePlay x = Told.standing(CHAIN, 0, 1, 2);
        Told.row(x, 0, 1, 0, 3, 2);
        Told.row(x, 1, 1, 9, 9);
        Told.row(x, 2, 0, 9, 9);
        CHECK.due("paste unlike", x.paste(0, 0, 2, 0, 1), -8);
        CHECK.due("paste unlike is asked ahead of places", x.paste(0, -1, 2, 0, 1), -8);
        CHECK.due("paste to nothing", x.paste(0, 0, 3, 0, 1), -6);
        CHECK.due("paste of nothing", x.paste(3, 0, 0, 0, 1), -6);
        CHECK.due("paste beyond its row", x.paste(0, 2, 1, 0, 2), -7);
        CHECK.due("paste beyond the other row", x.paste(0, 0, 1, 0, 3), -7);
        CHECK.due("paste from below 0", x.paste(0, -1, 1, 0, 1), -7);
        CHECK.due("paste to below 0", x.paste(0, 0, 1, -1, 1), -7);
        CHECK.due("paste of -1", x.paste(0, 0, 1, 0, -1), -7);
        CHECK.due("paste of very many", x.paste(0, 1, 1, 1, Integer.MAX_VALUE), -7);
        CHECK.due("paste from very far", x.paste(0, Integer.MAX_VALUE, 1, 0, 1), -7);
        CHECK.due("paste of least", x.paste(0, 1, 1, 1, Integer.MIN_VALUE), -7);
        CHECK.due("nothing happened", x.judge(1), 0);
        CHECK.due("paste none at the ends", x.paste(0, 3, 1, 2, 0), 0);
        CHECK.due("paste", x.paste(0, 0, 1, 0, 2), 0);
        CHECK.due("pasted", x.judge(1), 2);
        CHECK.due("pasted, ends", x.ends(1), 14);
        CHECK.due("paste on itself, forth", x.paste(0, 0, 0, 1, 2), 0);
        CHECK.due("0 0 3: as they were", x.ends(0), 7);
        x.lend(1);
        CHECK.due("0 0 3 with a slate", x.ends(0), 15);
        CHECK.due("paste on itself, back", x.paste(0, 1, 0, 0, 2), 0);
        CHECK.due("0 3 3", x.ends(0), 6);
    }
}
