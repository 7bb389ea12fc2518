/** Promises 1 to 5: a new object, feed, end, school, fault. */
public final class TapeTest {
    private static final Check CHECK = new Check();

    public static void main(String[] args) {
        newObject();
        feeding();
        ending();
        telling();
        faultsOfTokens();
        faultsOfBounds();
        faultOfFifteenth();
        faultLeavesAll();
        CHECK.finish();
    }

    private static void newObject() {
        SlatePlay x = new SlatePlay();
        CHECK.due("new fault(0)", x.fault(0), 0);
        CHECK.due("new fault(1)", x.fault(1), SlatePlay.NONE);
        CHECK.due("new fault(2)", x.fault(2), SlatePlay.NONE);
        CHECK.due("new fault(-1)", x.fault(-1), SlatePlay.NONE);
        CHECK.due("new stands(0)", x.stands(0), -2);
        CHECK.due("new clear()", x.clear(), 0);
        for (int what = 0; what <= 7; what++) {
            CHECK.due("new count(" + what + ")", x.count(what), 0);
        }
        CHECK.due("NONE", SlatePlay.NONE, -1);
    }

    private static void feeding() {
        SlatePlay x = new SlatePlay();
        for (int i = 1; i <= 80; i++) {
            CHECK.due("feed " + i, x.feed(0x20202020, 0x20202020, 0x0a0a0a0a, 0x20202020, 0x20202020), 20 * i);
        }
        CHECK.due("feed 81", x.feed(1, 2, 3, 4, 5), -1);
        CHECK.due("count(3) full", x.count(3), 1600);
        CHECK.due("end(1581)", x.end(1581), 1581);
        CHECK.due("feed beyond", x.feed(1, 2, 3, 4, 5), -1);
        CHECK.due("count(3) stays", x.count(3), 1581);
        CHECK.due("end(1580)", x.end(1580), 1580);
        CHECK.due("feed to the full", x.feed(0x736c6174, 0x65732037, 0x3b202020, 0x20202020, 0x20202020), 1600);
        CHECK.due("school of a full TAPE", x.school(), 1);
        CHECK.due("its slates", x.slates(0), 7);
        CHECK.due("count(3) behind school", x.count(3), 0);
        x.feed(0x736c6174, 0x6573f37f, 0, 0, 0);
        CHECK.due("high bytes: school", x.school(), -4);
        CHECK.due("high bytes: fault(0)", x.fault(0), 1);
        CHECK.due("high bytes: fault(1)", x.fault(1), 6);
    }

    private static void ending() {
        SlatePlay x = new SlatePlay();
        CHECK.due("end(0) of nothing", x.end(0), 0);
        CHECK.due("end(1) of nothing", x.end(1), -1);
        CHECK.due("end(-1) of nothing", x.end(-1), -1);
        x.feed(1, 2, 3, 4, 5);
        CHECK.due("end(21)", x.end(21), -1);
        CHECK.due("count(3)", x.count(3), 20);
        CHECK.due("end(least)", x.end(Integer.MIN_VALUE), -1);
        CHECK.due("end(20)", x.end(20), 20);
        CHECK.due("end(3)", x.end(3), 3);
        CHECK.due("end(4)", x.end(4), -1);
        CHECK.due("count(3) ended", x.count(3), 3);
        CHECK.due("feed behind", x.feed(1, 2, 3, 4, 5), 23);
    }

    private static void telling() {
        SlatePlay x = new SlatePlay();
        CHECK.due("lines", Told.tell(x, "slates 4;num 5;num 7;add 0 1;turn 1 by 3;times 2 3;"), 6);
        CHECK.due("fault(0)", x.fault(0), 0);
        CHECK.due("fault(1)", x.fault(1), -1);
        CHECK.due("fault(2)", x.fault(2), -1);
        CHECK.due("count(3)", x.count(3), 0);
        CHECK.due("count(0)", x.count(0), 5);
        x.move(0);
        x.move(1);
        x.lend(2);
        x.lose(0);
        CHECK.due("in place of another", Told.tell(x, "\nslates\n14 ;  num 1000002 ;turn 0 by 999;\n"), 3);
        CHECK.due("nothing STANDS", x.stands(0), 0);
        CHECK.due("slates", x.slates(0), 14);
        CHECK.due("none lent", x.slates(2), 0);
        CHECK.due("none lost", x.slates(3), 0);
        CHECK.due("TOKENS without blanks", Told.tell(x, "slates2;num3;less0 0;most0 1;turn2by1;"), 5);
        CHECK.due("zeros ahead", Told.tell(x, "slates 0000000000000000003;num 000000000000000000001;"), 2);
        CHECK.due("their slates", x.slates(0), 3);
        CHECK.due("their number", x.value(0), 1);
        CHECK.due("slates alone", Told.tell(x, "slates 1;"), 1);
        CHECK.due("stands(0) without SUMS", x.stands(0), 0);
        CHECK.due("fewest without SUMS", x.fewest(0, true), 0);
        CHECK.due("reach without SUMS", x.reach(14), 1);
        CHECK.due("walk without SUMS", x.walk(5, 200), 0);
        CHECK.due("nothing told", Told.tell(x, ""), 0);
        CHECK.due("no SCHOOL then", x.stands(0), -2);
        CHECK.due("count(2) then", x.count(2), 0);
        Told.tell(x, "slates 1;");
        CHECK.due("blanks told", Told.tell(x, " \n "), 0);
        CHECK.due("no SCHOOL behind blanks", x.slates(0), -2);
        Told.tape(x, "slates 14;num 12;num 345");
        x.end(14);
        CHECK.due("cut within a number", x.school(), -4);
        CHECK.due("its place is the end's", x.fault(1), 14);
        Told.tape(x, "slates 14;num 12;numb");
        x.end(20);
        CHECK.due("cut within a word", x.school(), -4);
        CHECK.due("its place is the end's, too", x.fault(1), 20);
        Told.tape(x, "slates 14;num 12;");
        x.end(10);
        CHECK.due("cut behind a LINE", x.school(), 1);
        CHECK.due("14 SUMS", Told.tell(x, "slates 1;" + "num 1;".repeat(14)), 15);
    }

    private static void fault(String text, int sort, int place) {
        SlatePlay x = new SlatePlay();
        CHECK.due("school of: " + text, Told.tell(x, text), -4);
        CHECK.due("fault(0) of: " + text, x.fault(0), sort);
        CHECK.due("fault(1) of: " + text, x.fault(1), place);
        CHECK.due("fault(2) of: " + text, x.fault(2), -1);
    }

    private static void faultsOfTokens() {
        fault("slates 1", 1, 8);
        fault("slates 1  ", 1, 10);
        fault("slates", 1, 6);
        fault("slates;", 1, 6);
        fault("slates num 1;", 1, 7);
        fault("num 1;", 1, 0);
        fault(" num", 1, 1);
        fault(";", 1, 0);
        fault("7;", 1, 0);
        fault("slates 1;;", 1, 9);
        fault("slates 1;slates 1;", 1, 9);
        fault("slates 1; by", 1, 10);
        fault("slates 1;5;", 1, 9);
        fault("slates 3;foo", 1, 9);
        fault("slates 3;nums 1;", 1, 9);
        fault("slates 3;numz 1;", 1, 9);
        fault("slates 3;num 1z;", 1, 14);
        fault("slates 3;num`1;", 1, 12);
        fault("slates 3;num{1;", 1, 12);
        fault("slates 3;num 1:;", 1, 14);
        fault("slates 3;num /1;", 1, 13);
        fault("slates 3;nu", 1, 9);
        fault("Slates 3;", 1, 0);
        fault("slates 3,num 1;", 1, 8);
        fault("slates 3;num -1;", 1, 13);
        fault("slates 3;num 1\t;", 1, 14);
        fault("slates 3;num 1 2;", 1, 15);
        fault("slates 3;num 1x;", 1, 14);
        fault("slates 3;num 1;add 0;", 1, 20);
        fault("slates 3;num 1;add 0 0 0;", 1, 23);
        fault("slates 3;num 1;turn 0 1;", 1, 22);
        fault("slates 3;num 1;turn 0 bye 1;", 1, 22);
        fault("slates 3;num 1;turn 0 by;", 1, 24);
        fault("slates 3;num 1;turn 0 by", 1, 24);
        fault("slates 3;num 1;add 0 0", 1, 22);
        fault("slates 3;num 1;add 0 num", 1, 21);
        fault("slates 3;\000", 1, 9);
        fault("slates 3;\377", 1, 9);
        fault("slates 3;\r", 1, 9);
    }

    private static void faultsOfBounds() {
        fault("slates 0;", 2, 7);
        fault("slates 15;", 2, 7);
        fault("slates 15", 2, 7);
        fault("slates 4294967297;", 2, 7);
        fault("slates 18446744073709551617;", 2, 7);
        fault("slates 3;num 1000003;", 2, 13);
        fault("slates 3;num 99999999999999999999999;", 2, 13);
        fault("slates 3;add 0 0;", 2, 13);
        fault("slates 3;num 1;add 1 0;", 2, 19);
        fault("slates 3;num 1;add 0 1;", 2, 21);
        fault("slates 3;num 1;less 0 1;", 2, 22);
        fault("slates 3;num 1;times 7 1;", 2, 21);
        fault("slates 3;num 1;most 0 14;", 2, 22);
        fault("slates 3;num 1;turn 1 by 5;", 2, 20);
        fault("slates 3;num 1;turn 0 by 0;", 2, 25);
        fault("slates 3;num 1;turn 0 by 1000;", 2, 25);
        fault("slates 3;turn 0 by 1000 #;", 2, 14);
    }

    private static void faultOfFifteenth() {
        String full = "slates 3;" + "num 1;".repeat(14);
        fault(full + "num", 3, 93);
        fault(full + "num 1;", 3, 93);
        fault(full + " turn 99 by 0;", 3, 94);
        fault(full + "slates 1;", 1, 93);
        fault(full + "by", 1, 93);
        fault(full + ";", 1, 93);
        fault(full + "#", 1, 93);
        fault("slates 3;" + "num 1;".repeat(13) + "add 0 13;num 1;", 2, 93);
    }

    private static void faultLeavesAll() {
        SlatePlay x = Told.standing("slates 3;num 4;add 0 0;", 0, 1);
        x.lend(1);
        CHECK.due("a FAULT", Told.tell(x, "slates 5;num 4;num"), -4);
        CHECK.due("its place", x.fault(1), 18);
        CHECK.due("SCHOOL stays", x.count(0), 2);
        CHECK.due("what STANDS stays", x.stands(0), 3);
        CHECK.due("numbers stay", x.board(1), 8);
        CHECK.due("slates stay", x.slates(0), 4);
        CHECK.due("the TAPE is empty", x.count(3), 0);
        CHECK.due("told rightly behind it", Told.tell(x, "slates 5;"), 1);
        CHECK.due("no FAULT then", x.fault(0), 0);
        CHECK.due("no place then", x.fault(1), -1);
    }
}
