/** The edges of promises 19 to 21, 41 and 55 to 57, a method for each promise or sentence. */
public final class EdgesRowsTest {
    private static final Check CHECK = new Check();
    private static final Twins RICH = new Twins(CHECK, Twins::rich);
    private static final Twins NONE = new Twins(CHECK, Twins::withoutSchool);
    private static final int[] NO_SLOTS = {-1, 4, Integer.MIN_VALUE, Integer.MAX_VALUE};
    private static final String TURNS = "slates 14;num 5;" + "turn 0 by 1;".repeat(13);

    public static void main(String[] args) {
        judgeRefused();
        judgeStopsAtTheFirst();
        judgeTellsMovesFromSwaps();
        judgeMinds();
        ends();
        backwards();
        rowRefused();
        rowTakesThePlaceOfAnother();
        writeRefused();
        writeCuts();
        pasteRefused();
        pasteAtTheEdges();
        pasteAsTheyWere();
        seriesRefused();
        seriesInOrder();
        seriesAtTheEdges();
        CHECK.finish();
    }

    private static void due(String call, long got, long want) {
        CHECK.due(call, got, want);
    }

    private static void judgeRefused() {
        for (int slot : NO_SLOTS) {
            RICH.stay("judge(" + slot + ")", -2, x -> x.judge(slot));
            RICH.stay("ends(" + slot + ")", -2, x -> x.ends(slot));
            RICH.stay("backwards(" + slot + ")", -2, x -> x.backwards(slot));
            NONE.stay("judge(" + slot + ") without SCHOOL", -2, x -> x.judge(slot));
        }
        RICH.stay("judge(2) of nothing", -6, x -> x.judge(2));
        RICH.stay("ends(2) of nothing", -6, x -> x.ends(2));
        RICH.stay("backwards(2) of nothing", -6, x -> x.backwards(2));
        for (int slot : new int[] {0, 2}) {
            NONE.stay("judge(" + slot + ") without SCHOOL", -2, x -> x.judge(slot));
            NONE.stay("ends(" + slot + ") without SCHOOL", -2, x -> x.ends(slot));
            NONE.stay("backwards(" + slot + ") without SCHOOL", -2, x -> x.backwards(slot));
        }
    }

    private static void judgeStopsAtTheFirst() {
        RICH.stay("judge(0): 103 can't be", 1, x -> x.judge(0));
        RICH.stay("judge(1): 1 can't be", 0, x -> x.judge(1));
        RICH.stay("judge(3): none", 0, x -> x.judge(3));
        SlatePlay x = Told.school("slates 1;num 5;num 6;");
        for (int n : new int[] {0, 1, 59, 60}) {
            x.row(0, 0, n);
            due("all of " + n, x.judge(0), n);
            due("ends of " + n, x.ends(0), n % 2);
        }
        x.write(0, 59, 7);
        due("all but the last of 60", x.judge(0), 59);
        x.write(0, 0, 7);
        due("not the first of 60", x.judge(0), 0);
        // Behind one that can't be others could be, but are not made.
        Told.row(x, 1, 0, 0, 1, 0, 1);
        due("1 has no slate", x.judge(1), 1);
        due("nothing is made behind it", x.ends(1), 1);
    }

    private static void judgeTellsMovesFromSwaps() {
        SlatePlay x = Told.standing(TURNS, 0);
        long[] can = {0, 1, 13, 101, 113};
        int[] end = {0, 3, 8193, 2, 8192};
        for (int i = 0; i < can.length; i++) {
            Told.row(x, 0, 3, can[i]);
            due("judge of " + can[i], x.judge(0), 1);
            due("ends of " + can[i], x.ends(0), end[i]);
            due("backwards of " + can[i], x.backwards(0), 1);
        }
        long[] cannot = {-1, 14, 99, 100, 114, 128, 255, 1L << 32, (1L << 32) + 101, Long.MIN_VALUE, Long.MAX_VALUE};
        for (long odd : cannot) {
            Told.row(x, 0, 3, odd);
            due("judge of " + odd, x.judge(0), 0);
            due("ends of " + odd, x.ends(0), 1);
            due("backwards of " + odd, x.backwards(0), 0);
        }
        // 14 SUMS are told ahead of this one, which has but two.
        Told.tell(x, "slates 14;num 5;turn 0 by 1;");
        x.move(0);
        for (long odd : new long[] {2, 13, 102, 113}) {
            Told.row(x, 0, 3, odd);
            due("judge of " + odd + " of an earlier SCHOOL", x.judge(0), 0);
        }
        Told.row(x, 0, 3, 101);
        due("judge of the last", x.judge(0), 1);
    }

    /** What a MOVE minds: slates, numbers, what it comes of. */
    private static void judgeMinds() {
        SlatePlay x = Told.standing("slates 2;num 5;num 6;add 0 1;", 0);
        Told.row(x, 0, 1, 1, 2);
        due("without a slate", x.judge(0), 1);
        x.lend(1);
        due("with one lent", x.judge(0), 2);
        x.lose(0);
        due("without what it comes of", x.judge(0), 1);
        x.move(0);
        x.move(1);
        x.smudge(1, 9);
        Told.row(x, 0, 1, 0, 0, 1);
        due("with another number", x.judge(0), 2);
        due("nothing but thought", x.stands(0), 3);
        due("its number stays", x.board(1), 9);
        due("the slates stay", x.slates(0), 2);
    }

    private static void ends() {
        RICH.stay("ends(0)", 15, x -> x.ends(0));
        RICH.stay("ends(1)", 14, x -> x.ends(1));
        RICH.stay("ends(3)", 14, x -> x.ends(3));
        SlatePlay x = Told.school(TURNS);
        Told.row(x, 0, 0, 0, 1, 2, 3, 4, 5, 6, 7, 8, 9, 10, 11, 12, 13);
        due("all STAND", x.ends(0), 16383);
        due("nothing STANDS really", x.stands(0), 0);
    }

    private static void backwards() {
        RICH.stay("backwards(0): 103 can't be", 0, x -> x.backwards(0));
        RICH.stay("backwards(1): 1 can't be", 0, x -> x.backwards(1));
        RICH.stay("backwards(3): none", 1, x -> x.backwards(3));
        new Twins(CHECK, () -> {
            SlatePlay x = Twins.rich();
            Told.row(x, 0, 0, 0, 2, 103, 4);
            return x;
        }).stay("2 has another number than 5 and 9", 0, x -> x.backwards(0));
        new Twins(CHECK, () -> {
            SlatePlay x = Twins.rich();
            Told.row(x, 0, 0, 3, 103, 4, 0, 103);
            return x;
        }).stay("wiped, swapped, worked of a wrong number, and swapped back", 1, x -> x.backwards(0));
        SlatePlay x = Told.school("slates 1;num 5;");
        x.row(0, 0, 60);
        due("sixty and back", x.backwards(0), 1);
        x.write(0, 59, 1);
        due("but the last can't be", x.backwards(0), 0);
    }

    private static void rowRefused() {
        for (int slot : NO_SLOTS) {
            RICH.stay("row(" + slot + ", 0, 1)", -2, x -> x.row(slot, 0, 1));
            RICH.stay("row(" + slot + ", 0, -1): the SLOT is asked ahead", -2, x -> x.row(slot, 0, -1));
        }
        for (int width : NO_SLOTS) {
            RICH.stay("row(0, " + width + ", 1)", -2, x -> x.row(0, width, 1));
            RICH.stay("row(0, " + width + ", -1): the WIDTH is asked ahead", -2, x -> x.row(0, width, -1));
            RICH.stay("row(2, " + width + ", 1)", -2, x -> x.row(2, width, 1));
        }
        for (int slot : new int[] {0, 2}) {
            RICH.stay("row of 61 to " + slot, -2, x -> x.row(slot, 0, 61));
            RICH.stay("row of the greatest to " + slot, -2, x -> x.row(slot, 0, Integer.MAX_VALUE));
            RICH.stay("row of -1 to " + slot, -3, x -> x.row(slot, 0, -1));
            RICH.stay("row of the least to " + slot, -3, x -> x.row(slot, 0, Integer.MIN_VALUE));
        }
    }

    private static void rowTakesThePlaceOfAnother() {
        for (int slot = 0; slot < 4; slot++) {
            for (int width = 0; width < 4; width++) {
                SlatePlay x = Told.school("slates 1;num 5;");
                due("row of 60", x.row(slot, width, 60), 0);
                due("its last number", x.write(slot, 59, 9), 0);
                due("beyond it", x.write(slot, 60, 9), -7);
                due("all others are 0", x.judge(slot), 59);
                due("a row again", x.row(slot, width, 60), 0);
                due("all are 0", x.judge(slot), 60);
                due("a row of none", x.row(slot, width, 0), 0);
                due("it has no number", x.write(slot, 0, 0), -7);
                due("it is a row", x.judge(slot), 0);
                due("longer again", x.row(slot, width, 2), 0);
                due("all are 0 again", x.judge(slot), 2);
                due("one SLOT", x.count(7), 1);
            }
        }
        RICH.become("another WIDTH", 0, x -> x.row(0, 1, 3), x -> {
            x.row(0, 1, 2);
            return x.row(0, 1, 3);
        });
        SlatePlay x = Twins.rich();
        x.row(1, 0, 2);
        due("rows are of one WIDTH now", x.paste(0, 0, 1, 0, 2), 0);
    }

    private static void writeRefused() {
        for (int slot : NO_SLOTS) {
            RICH.stay("write(" + slot + ", 0, 1)", -2, x -> x.write(slot, 0, 1));
            RICH.stay("write(" + slot + ", -1, 1)", -2, x -> x.write(slot, -1, 1));
        }
        RICH.stay("write to nothing", -6, x -> x.write(2, 0, 1));
        RICH.stay("write to nothing, at no place", -6, x -> x.write(2, -1, 1));
        RICH.stay("write(0, 3, 1) of 3", -7, x -> x.write(0, 3, 1));
        RICH.stay("write(0, -1, 1) of 3", -7, x -> x.write(0, -1, 1));
        RICH.stay("write(0, least, 1) of 3", -7, x -> x.write(0, Integer.MIN_VALUE, 1));
        RICH.stay("write(0, greatest, 1) of 3", -7, x -> x.write(0, Integer.MAX_VALUE, 1));
        RICH.stay("write(3, 0, 1) of none", -7, x -> x.write(3, 0, 1));
        RICH.stay("write of what is there", 0, x -> x.write(0, 1, 103));
        RICH.become("write at the first and the last", 0, x -> x.write(0, 0, 7) + x.write(0, 2, 113), x -> {
            Told.row(x, 0, 0, 7, 103, 113);
            return 0;
        });
    }

    /** What is above a WIDTH's bytes is cut off, and no more. */
    private static void writeCuts() {
        long[] above = {1L << 8, 1L << 16, 1L << 32, 1L << 63};
        for (int width = 0; width < 4; width++) {
            for (int bytes = 0; bytes < 4; bytes++) {
                for (int low : new int[] {0, 13, 101, 113}) {
                    SlatePlay x = Told.standing(TURNS, 0);
                    boolean cut = width < 3 && bytes >= width;
                    Told.row(x, 0, width, low + above[bytes]);
                    due("WIDTH " + width + " of " + (low + above[bytes]), x.judge(0), cut ? 1 : 0);
                    Told.row(x, 0, width, low - above[bytes]);
                    due("WIDTH " + width + " of " + (low - above[bytes]), x.judge(0), cut ? 1 : 0);
                }
            }
            SlatePlay x = Told.school(TURNS);
            Told.row(x, 0, width, -1, 0);
            due("WIDTH " + width + ": -1 is no MOVE", x.judge(0), 0);
            Told.row(x, 0, width, 0, Long.MAX_VALUE);
            due("WIDTH " + width + ": the greatest is no MOVE", x.judge(0), 1);
        }
    }

    private static void pasteRefused() {
        for (int slot : NO_SLOTS) {
            RICH.stay("paste(" + slot + ", 0, 0, 0, 1)", -2, x -> x.paste(slot, 0, 0, 0, 1));
            RICH.stay("paste(0, 0, " + slot + ", 0, 1)", -2, x -> x.paste(0, 0, slot, 0, 1));
            RICH.stay("paste(2, 0, " + slot + ", 0, 1): SLOTS first", -2, x -> x.paste(2, 0, slot, 0, 1));
            RICH.stay("paste(" + slot + ", 0, 2, 0, 1): SLOTS first", -2, x -> x.paste(slot, 0, 2, 0, 1));
        }
        RICH.stay("paste of nothing", -6, x -> x.paste(2, 0, 0, 0, 1));
        RICH.stay("paste to nothing", -6, x -> x.paste(0, 0, 2, 0, 1));
        RICH.stay("paste of nothing to itself", -6, x -> x.paste(2, 0, 2, 0, 0));
        RICH.stay("paste to nothing, beyond", -6, x -> x.paste(0, 9, 2, -9, -9));
        RICH.stay("paste unlike", -8, x -> x.paste(0, 0, 1, 0, 1));
        RICH.stay("paste unlike of none", -8, x -> x.paste(0, 0, 1, 0, 0));
        RICH.stay("paste unlike, beyond", -8, x -> x.paste(0, 9, 1, -9, -9));
        int[][] beyond = {{0, 0, 4}, {0, 1, 3}, {1, 0, 3}, {2, 0, 2}, {0, 2, 2}, {3, 0, 1}, {0, 3, 1}, {-1, 0, 1},
            {0, -1, 1}, {0, 0, -1}, {4, 0, 0}, {0, 4, 0}, {-1, 0, 0}, {0, -1, 0}, {3, 3, -1}, {1, 1, Integer.MAX_VALUE},
            {Integer.MAX_VALUE, 0, 1}, {0, Integer.MAX_VALUE, 1}, {Integer.MAX_VALUE, 0, Integer.MAX_VALUE},
            {Integer.MIN_VALUE, 0, 1}, {0, Integer.MIN_VALUE, 1}, {0, 0, Integer.MIN_VALUE},
            {Integer.MAX_VALUE, Integer.MAX_VALUE, Integer.MIN_VALUE}, {1, 1, Integer.MIN_VALUE}};
        for (int[] b : beyond) {
            String of = "paste(0, " + b[0] + ", 0, " + b[1] + ", " + b[2] + ")";
            RICH.stay(of, -7, x -> x.paste(0, b[0], 0, b[1], b[2]));
        }
        RICH.stay("paste of one to a row of none", -7, x -> x.row(3, 0, 0) * 0 + x.paste(0, 0, 3, 0, 1)
                + x.row(3, 2, 0));
    }

    private static void pasteAtTheEdges() {
        RICH.stay("paste of none", 0, x -> x.paste(0, 0, 0, 0, 0));
        RICH.stay("paste of none at the ends", 0, x -> x.paste(0, 3, 0, 3, 0));
        RICH.stay("paste of none from the end", 0, x -> x.paste(0, 3, 0, 0, 0));
        RICH.stay("paste of none in a row of none", 0, x -> x.paste(3, 0, 3, 0, 0));
        RICH.stay("paste of all on itself", 0, x -> x.paste(0, 0, 0, 0, 3));
        RICH.become("paste of the last to the first", 0, x -> x.paste(0, 2, 0, 0, 1), x -> x.write(0, 0, 4));
        RICH.become("paste of the first to the last", 0, x -> x.paste(0, 0, 0, 2, 1), x -> x.write(0, 2, 0));
        SlatePlay x = Told.standing(TURNS, 0);
        x.row(0, 2, 60);
        x.row(1, 2, 60);
        x.write(0, 59, 101);
        due("paste of sixty", x.paste(0, 0, 1, 0, 60), 0);
        due("sixty are there", x.judge(1), 59);
        due("paste of 61", x.paste(0, 0, 1, 0, 61), -7);
        due("paste of the last", x.paste(0, 59, 1, 0, 1), 0);
        due("it is the first now, and the last SWAP can be", x.judge(1), 60);
    }

    private static void pasteAsTheyWere() {
        RICH.become("forth on itself", 0, x -> x.paste(0, 0, 0, 1, 2), x -> {
            Told.row(x, 0, 0, 0, 0, 103);
            return 0;
        });
        RICH.become("back on itself", 0, x -> x.paste(0, 1, 0, 0, 2), x -> {
            Told.row(x, 0, 0, 103, 4, 4);
            return 0;
        });
        RICH.become("to another one, which is no more than a copy", 0, x -> {
            x.row(3, 0, 4);
            int done = x.paste(0, 1, 3, 2, 2);
            x.write(0, 1, 9);
            x.write(0, 1, 103);
            return done;
        }, x -> {
            Told.row(x, 3, 0, 0, 0, 103, 4);
            return 0;
        });
    }

    private static void seriesRefused() {
        for (int slot : NO_SLOTS) {
            RICH.stay("series(" + slot + ", 5)", -2, x -> x.series(slot, 5));
        }
        for (int s : new int[] {0, -1, 15, Integer.MIN_VALUE, Integer.MAX_VALUE}) {
            RICH.stay("series(1, " + s + ")", -2, x -> x.series(1, s));
            RICH.stay("series(2, " + s + "): s is asked ahead of nothing", -2, x -> x.series(2, s));
        }
        RICH.stay("series of nothing", -6, x -> x.series(2, 5));
        NONE.stay("series without SCHOOL", -2, x -> x.series(2, 5));
        NONE.stay("series without SCHOOL, of nothing", -2, x -> x.series(0, 5));
        RICH.stay("series of a number that is no SUM", -2, x -> x.series(0, 5));
        SlatePlay x = Told.school("slates 14;" + "num 5;".repeat(14));
        for (long odd : new long[] {-1, 14, 100, 256, Long.MIN_VALUE, Long.MAX_VALUE, 1L << 32}) {
            Told.row(x, 0, 3, 0, odd);
            due("series of " + odd, x.series(0, 14), -2);
            Told.row(x, 0, 3, odd, 0);
            due("series of " + odd + " first", x.series(0, 14), -2);
        }
        Told.row(x, 0, 3, 13, 0);
        due("series of the 14th", x.series(0, 14), 2);
        for (int n = 9; n <= 60; n += 51) {
            x.row(0, 0, n);
            due("series of " + n, x.series(0, 14), -2);
        }
        x.row(0, 0, 8);
        due("series of eight", x.series(0, 14), 1);
        SlatePlay alone = Told.school("slates 1;");
        alone.row(0, 0, 1);
        due("series of SUM 0 where there is none", alone.series(0, 1), -2);
        alone.row(0, 0, 0);
        due("series of none where there is none", alone.series(0, 1), 0);
    }

    private static void seriesInOrder() {
        SlatePlay x = Told.school("slates 1;num 1;num 2;num 3;");
        Told.row(x, 0, 0, 0, 1, 2, 1, 0, 2, 1, 0);
        due("eight, with one slate", x.series(0, 1), 15);
        due("eight, with all slates", x.series(0, 3), 3);
        Told.row(x, 0, 0, 1, 1, 1, 1, 1, 1, 1, 1);
        due("one at once, eight times", x.series(0, 1), 1);
        SlatePlay y = Told.standing("slates 1;num 1;turn 0 by 1;turn 1 by 1;", 0);
        Told.row(y, 0, 0, 0, 2, 1, 0);
        due("by SWAPS", y.series(0, 1), 4);
        Told.row(y, 0, 0, 2, 1, 2);
        due("there, back and there", y.series(0, 1), 4);
    }

    private static void seriesAtTheEdges() {
        // SUMS 1, 2 and 3 STAND: 1 and 2 do at once.
        RICH.stay("series(1, 3)", 0, x -> x.series(1, 3));
        RICH.stay("series(1, 14)", 0, x -> x.series(1, 14));
        RICH.stay("series(1, 2): more STAND", -1, x -> x.series(1, 2));
        RICH.stay("series(1, 1): more STAND", -1, x -> x.series(1, 1));
        RICH.stay("series of none", 0, x -> x.series(3, 3));
        RICH.stay("series of none: more STAND", -1, x -> x.series(3, 2));
        SlatePlay x = Told.school("slates 1;num 1;num 2;add 0 1;");
        Told.row(x, 0, 0, 2);
        due("one does not come so far", x.series(0, 2), -1);
        due("one does with one more", x.series(0, 3), 3);
        Told.row(x, 0, 0, 0, 2);
        due("the first is come to, the second not", x.series(0, 2), -1);
        Told.row(x, 0, 0, 2, 0);
        due("the first is not come to", x.series(0, 2), -1);
        due("slates there are do not matter", x.series(0, 14), 3);
    }
}
