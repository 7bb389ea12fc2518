/** The edges of promises 1 to 5 and of Term I, a method for each sentence that names one. */
public final class EdgesTapeTest {
    private static final Check CHECK = new Check();
    private static final Twins RICH = new Twins(CHECK, Twins::rich);

    public static void main(String[] args) {
        newObjectHasNoSchool();
        feedTellsHowManyThereAre();
        feedPutsTheHighestByteFirst();
        feedRefusesMoreThan1600();
        feedComesBehindWhatEndLeft();
        endCutsAtMostAll();
        endRefusesMoreThanThereAre();
        endRefusesBelowNothing();
        schoolComesInPlaceOfAnother();
        schoolTakesNothingOfAnother();
        schoolOfNothingIsNone();
        schoolEmptiesTheTape();
        schoolWithFaultLeavesAll();
        faultAheadOfAnySchool();
        faultOfTheLatestSchool();
        slatesHaveBounds();
        slatesIsTheFirstLineAndNoOther();
        numbersHaveBounds();
        turnsHaveBounds();
        sumsAreToldAhead();
        fourteenSumsAndNoMore();
        everyByteIsSomeTokenOrNone();
        tokensAreTheLongest();
        textsMayEndBehindALineAlone();
        firstFaultByPlace();
        valuesWrapAround();
        depths();
        CHECK.finish();
    }

    private static void due(String call, long got, long want) {
        CHECK.due(call, got, want);
    }

    private static void right(String text, int lines) {
        SlatePlay x = new SlatePlay();
        due("school of: " + text, Told.tell(x, text), lines);
        due("fault(0) of: " + text, x.fault(0), 0);
        due("fault(1) of: " + text, x.fault(1), -1);
        due("count(2) of: " + text, x.count(2), lines);
    }

    private static void fault(String text, int sort, int place) {
        SlatePlay x = new SlatePlay();
        due("school of: " + text, Told.tell(x, text), -4);
        due("fault(0) of: " + text, x.fault(0), sort);
        due("fault(1) of: " + text, x.fault(1), place);
        due("no SCHOOL of: " + text, x.stands(0), -2);
    }

    private static void newObjectHasNoSchool() {
        SlatePlay x = new SlatePlay();
        due("stands(0)", x.stands(0), -2);
        due("slates(0)", x.slates(0), -2);
        due("sum(0, 0)", x.sum(0, 0), -2);
        for (int what = 0; what <= 7; what++) {
            due("count(" + what + ")", x.count(what), 0);
        }
        for (int slot = 0; slot < 4; slot++) {
            due("write to SLOT " + slot, x.write(slot, 0, 0), -6);
        }
        for (int k = 0; k < 3; k++) {
            due("back(" + k + ")", x.back(k), -6);
        }
    }

    private static void feedTellsHowManyThereAre() {
        SlatePlay x = new SlatePlay();
        due("the first twenty", x.feed(0, 0, 0, 0, 0), 20);
        due("the next twenty", x.feed(-1, -1, -1, -1, -1), 40);
        due("count(3)", x.count(3), 40);
    }

    /** A byte that is no TOKEN is put to each of the twenty places in turn. */
    private static void feedPutsTheHighestByteFirst() {
        for (int place = 0; place < 20; place++) {
            for (int odd : new int[] {0x00, 0x7f, 0x80, 0xff}) {
                int[] fed = new int[5];
                for (int i = 0; i < 20; i++) {
                    fed[i / 4] = fed[i / 4] << 8 | (i == place ? odd : 32);
                }
                SlatePlay x = new SlatePlay();
                x.feed(fed[0], fed[1], fed[2], fed[3], fed[4]);
                due("byte " + odd + " at " + place, x.school(), -4);
                due("FAULT of byte " + odd + " at " + place, x.fault(0), 1);
                due("place of byte " + odd + " at " + place, x.fault(1), place);
            }
        }
        SlatePlay x = new SlatePlay();
        // "slates 12;num 34567;"
        x.feed(0x736c6174, 0x65732031, 0x323b6e75, 0x6d203334, 0x3536373b);
        due("twenty bytes that all tell", x.school(), 2);
        due("their slates", x.slates(0), 12);
        due("their number", x.value(0), 34567);
    }

    private static SlatePlay fed(int bytes) {
        SlatePlay x = new SlatePlay();
        Told.tape(x, "slates 5;num 4;" + " ".repeat(bytes - 15));
        return x;
    }

    private static void feedRefusesMoreThan1600() {
        due("1,580 and twenty", fed(1580).feed(1, 2, 3, 4, 5), 1600);
        for (int bytes : new int[] {1581, 1599, 1600}) {
            Twins twins = new Twins(CHECK, () -> {
                SlatePlay x = new SlatePlay();
                Told.tape(x, "slates 5;num 4;" + " ".repeat(1600 - 15));
                x.end(bytes);
                return x;
            });
            twins.stay(bytes + " and twenty", -1, x -> x.feed(0x23232323, 0, 0, 0, 0));
        }
        SlatePlay x = fed(1580);
        x.feed(0x20202020, 0x20202020, 0x20202020, 0x20202020, 0x20202023);
        due("the 1,600th byte", x.school(), -4);
        due("its place", x.fault(1), 1599);
    }

    private static void feedComesBehindWhatEndLeft() {
        SlatePlay x = new SlatePlay();
        Told.tape(x, "slates 5;num 4;##########");
        x.end(15);
        // "num 6;" and blanks
        due("feed", x.feed(0x6e756d20, 0x363b2020, 0x20202020, 0x20202020, 0x20202020), 35);
        due("school", x.school(), 3);
        due("value(1)", x.value(1), 6);
    }

    private static void endCutsAtMostAll() {
        SlatePlay x = fed(40);
        due("end of all", x.end(40), 40);
        due("count(3) of all", x.count(3), 40);
        due("end(9)", x.end(9), 9);
        due("count(3) of 9", x.count(3), 9);
        due("end(0)", x.end(0), 0);
        due("count(3) of none", x.count(3), 0);
        due("end(0) of none", x.end(0), 0);
        due("school of none", x.school(), 0);
        SlatePlay full = fed(1600);
        due("end(1600)", full.end(1600), 1600);
        SlatePlay cut = fed(40);
        cut.end(9);
        due("what is cut is not told", cut.school(), 1);
        due("its SUMS", cut.count(0), 0);
    }

    private static void endRefusesMoreThanThereAre() {
        RICH.stay("end(16) of 15", -1, x -> x.end(16));
        RICH.stay("end(1600) of 15", -1, x -> x.end(1600));
        RICH.stay("end(greatest) of 15", -1, x -> x.end(Integer.MAX_VALUE));
        due("end(1) of none", new SlatePlay().end(1), -1);
        SlatePlay x = fed(40);
        x.end(9);
        due("what is cut does not come back", x.end(10), -1);
        due("end(1601) of 1,600", fed(1600).end(1601), -1);
    }

    private static void endRefusesBelowNothing() {
        RICH.stay("end(-1)", -1, x -> x.end(-1));
        RICH.stay("end(least)", -1, x -> x.end(Integer.MIN_VALUE));
        due("end(-1) of none", new SlatePlay().end(-1), -1);
    }

    private static void schoolComesInPlaceOfAnother() {
        SlatePlay x = Twins.rich();
        due("another SCHOOL", x.school(), 2);
        due("fault(0)", x.fault(0), 0);
        due("fault(1)", x.fault(1), -1);
        due("its SUMS", x.count(0), 1);
        due("none of the other one's", x.value(1), -2);
        due("slates(0)", x.slates(0), 2);
        due("all are free", x.slates(1), 2);
        due("none is lent", x.slates(2), 0);
        due("none is lost", x.slates(3), 0);
        due("nothing STANDS", x.stands(0), 0);
        due("nothing is DOUBTED", x.stands(2), 0);
        due("no number of another one", x.board(0), -1);
        due("the rows stay", x.count(7), 3);
        due("the IMAGE stays", x.back(2), 0);
        due("the IMAGE's SCHOOL", x.stands(0), 14);
    }

    /** A SCHOOL of nums behind one of a SUM of others: of the other one nothing is left. */
    private static void schoolTakesNothingOfAnother() {
        for (String word : new String[] {"add 0 1", "turn 1 by 7"}) {
            SlatePlay x = Told.school("slates 9;num 5;num 6;" + word + ";" + word + ";");
            for (int v = 0; v < 4; v++) {
                x.move(v);
            }
            due("nums behind: " + word, Told.tell(x, "slates 3;num 1;num 2;num 3;num 4;"), 5);
            for (int v = 0; v < 4; v++) {
                for (int what : new int[] {0, 3, 4, 5}) {
                    due("sum(" + v + ", " + what + ") behind: " + word, x.sum(v, what), 0);
                }
                due("value(" + v + ") behind: " + word, x.value(v), v + 1);
            }
            due("count(1) behind: " + word, x.count(1), 0);
            due("count(5) behind: " + word, x.count(5), 0);
            due("count(6) behind: " + word, x.count(6), 15);
            due("may(0) behind: " + word, x.may(0), 15);
            due("may(1) behind: " + word, x.may(1), 0);
            due("move(3) behind: " + word, x.move(3), 1);
            due("swap(3) behind: " + word, x.swap(3), -2);
            due("reach(3) behind: " + word, x.reach(3), 15);
            due("a shorter one behind it", Told.tell(x, "slates 2;num 8;"), 2);
            due("sum(1, 0) behind it", x.sum(1, 0), -2);
            due("move(1) behind it", x.move(1), -2);
            due("fewest(2, true) behind it", x.fewest(2, true), -2);
            due("reach(14) behind it", x.reach(14), 2);
        }
    }

    private static void schoolOfNothingIsNone() {
        for (String text : new String[] {"", " ", "\n", " \n \n  "}) {
            SlatePlay x = Twins.rich();
            x.end(0);
            due("LINES of blanks", Told.tell(x, text), 0);
            due("fault(0) of blanks", x.fault(0), 0);
            due("fault(1) of blanks", x.fault(1), -1);
            due("no SCHOOL", x.stands(0), -2);
            due("no slates", x.slates(0), -2);
            due("no SUM", x.value(0), -2);
            due("nothing STOOD", x.clear(), 0);
            due("count(4)", x.count(4), 0);
        }
    }

    private static void schoolEmptiesTheTape() {
        SlatePlay x = Twins.rich();
        x.school();
        due("count(3) behind a SCHOOL", x.count(3), 0);
        due("end(1) behind a SCHOOL", x.end(1), -1);
        Told.tape(x, "slates 9");
        x.school();
        due("count(3) behind a FAULT", x.count(3), 0);
        due("the next text begins anew", Told.tell(x, "slates 8;"), 1);
        due("slates(0)", x.slates(0), 8);
    }

    private static void schoolWithFaultLeavesAll() {
        String due = Whole.withoutTape(Twins.rich());
        for (String text : new String[] {"slates 3;num 1;num 2;add 0 1;#", "slates 3", "slates 0;", "num 1;",
            "slates 9;" + "num 8;".repeat(15)}) {
            SlatePlay x = Twins.rich();
            x.end(0);
            due("FAULT of: " + text, Told.tell(x, text), -4);
            CHECK.same("behind the FAULT of: " + text, Whole.withoutTape(x), due);
        }
        SlatePlay y = new SlatePlay();
        due("FAULT without SCHOOL", Told.tell(y, "slates 3;num"), -4);
        due("no SCHOOL still", y.stands(0), -2);
        due("no LINES still", y.count(2), 0);
    }

    private static void faultAheadOfAnySchool() {
        SlatePlay x = new SlatePlay();
        due("fault(0)", x.fault(0), 0);
        due("fault(1)", x.fault(1), -1);
        for (int what : new int[] {-1, 2, Integer.MIN_VALUE, Integer.MAX_VALUE}) {
            due("fault(" + what + ")", x.fault(what), -1);
            RICH.stay("fault(" + what + ") behind a FAULT", -1, y -> y.fault(what));
        }
    }

    private static void faultOfTheLatestSchool() {
        SlatePlay x = new SlatePlay();
        Told.tell(x, "slates 3;num 1000003;");
        due("fault(0)", x.fault(0), 2);
        due("fault(1)", x.fault(1), 13);
        Told.tape(x, "slates 1;");
        due("a text on the TAPE does not change it", x.fault(0), 2);
        x.school();
        due("fault(0) without", x.fault(0), 0);
        due("fault(1) without", x.fault(1), -1);
        x.image(0);
        Told.tell(x, "#");
        x.back(0);
        due("fault(0) is not gone back to", x.fault(0), 1);
        due("fault(1) at the first byte", x.fault(1), 0);
        Told.tell(x, "");
        due("fault(0) of nothing told", x.fault(0), 0);
        due("fault(1) of nothing told", x.fault(1), -1);
    }

    private static void slatesHaveBounds() {
        right("slates 1;", 1);
        right("slates 14;", 1);
        right("slates 014;", 1);
        fault("slates 0;", 2, 7);
        fault("slates 15;", 2, 7);
        fault("slates 015;", 2, 7);
        fault("slates 2147483649;", 2, 7);
        fault("slates 4294967310;", 2, 7);
        due("one slate", Told.school("slates 1;").slates(0), 1);
        due("14 slates", Told.school("slates 14;").slates(0), 14);
    }

    private static void slatesIsTheFirstLineAndNoOther() {
        fault("slates 3;slates 3;", 1, 9);
        fault("slates 3;num 1;slates 3;", 1, 15);
        for (String word : new String[] {"num 1;", "add 0 0;", "less 0 0;", "times 0 0;", "most 0 0;", "turn 0 by 1;",
            "by", "slate 1;", "slatess 1;", "7;", ";"}) {
            fault(word, 1, 0);
            fault("\n " + word, 1, 2);
        }
    }

    private static void numbersHaveBounds() {
        due("num 0", Told.school("slates 1;num 0;").value(0), 0);
        due("num 1000002", Told.school("slates 1;num 1000002;").value(0), 1000002);
        fault("slates 1;num 1000003;", 2, 13);
        fault("slates 1;num 10000020;", 2, 13);
        // These would be 0 and 5 by wrapping around.
        fault("slates 1;num 4294967296;", 2, 13);
        fault("slates 1;num 18446744073709551621;", 2, 13);
        fault("slates 1;num " + "9".repeat(1500) + ";", 2, 13);
        due("num of many zeros", Told.school("slates 1;num " + "0".repeat(1500) + "17;").value(0), 17);
    }

    private static void turnsHaveBounds() {
        due("by 1", Told.school("slates 1;num 5;turn 0 by 1;").value(1), 6);
        due("by 999", Told.school("slates 1;num 5;turn 0 by 999;").value(1), 1004);
        fault("slates 1;num 5;turn 0 by 0;", 2, 25);
        fault("slates 1;num 5;turn 0 by 1000;", 2, 25);
        fault("slates 1;num 5;turn 0 by 4294967297;", 2, 25);
    }

    private static void sumsAreToldAhead() {
        for (String word : new String[] {"add", "less", "times", "most"}) {
            int at = 15 + word.length() + 1;
            right("slates 1;num 5;" + word + " 0 0;", 3);
            fault("slates 1;num 5;" + word + " 1 0;", 2, at);
            fault("slates 1;num 5;" + word + " 0 1;", 2, at + 2);
            fault("slates 1;num 5;" + word + " 4294967296 0;", 2, at);
            fault("slates 1;" + word + " 0 0;", 2, at - 6);
            right("slates 1;num 5;num 6;" + word + " 1 1;", 4);
            right("slates 1;num 5;num 6;" + word + " 0 1;", 4);
            fault("slates 1;num 5;num 6;" + word + " 1 2;", 2, at + 8);
        }
        fault("slates 1;turn 0 by 1;", 2, 14);
        fault("slates 1;num 5;turn 1 by 1;", 2, 20);
        right("slates 1;num 5;num 6;turn 1 by 1;", 4);
        String thirteen = "slates 1;" + "num 5;".repeat(13);
        right(thirteen + "add 12 12;", 15);
        fault(thirteen + "add 13 0;", 2, 91);
        fault(thirteen + "add 12 13;", 2, 94);
        fault(thirteen + "turn 13 by 1;", 2, 92);
    }

    private static void fourteenSumsAndNoMore() {
        String full = "slates 1;" + "num 5;".repeat(14);
        right(full, 15);
        due("SUMS", Told.school(full).count(0), 14);
        right(full + "\n ", 15);
        for (String word : new String[] {"num", "add", "less", "times", "most", "turn"}) {
            fault(full + word, 3, 93);
            fault(full + " " + word + " 99999999 x;", 3, 94);
        }
        // Of one place the least: what can't stand there is 1.
        for (String odd : new String[] {"slates 1;", "by", "nums", "5", ";", "#"}) {
            fault(full + odd, 1, 93);
        }
    }

    private static void everyByteIsSomeTokenOrNone() {
        for (int b = 0; b < 256; b++) {
            String sign = String.valueOf((char) b);
            boolean blank = b == 32 || b == 10;
            boolean digit = b >= '0' && b <= '9';
            if (blank) {
                right("slates 3;num 1" + sign + ";", 2);
                right(sign + "slates" + sign + "3" + sign + ";" + sign, 1);
            } else if (digit) {
                due("digit " + b, Told.school("slates 3;num 1" + sign + ";").value(0), 10 + b - '0');
                fault("slates 3;" + sign, 1, 9);
            } else if (b == ';') {
                fault("slates 3;num 1" + sign + ";", 1, 15);
                fault("slates 3;" + sign, 1, 9);
            } else {
                fault("slates 3;num 1" + sign + ";", 1, 14);
                fault("slates 3;" + sign, 1, 9);
                fault("slates" + sign + "3;", 1, b >= 'a' && b <= 'z' ? 0 : 6);
            }
        }
    }

    private static void tokensAreTheLongest() {
        right("slates3;num4;add0 0;turn1by5;", 4);
        fault("slatesslates3;", 1, 0);
        fault("slates 3;numnum 4;", 1, 9);
        fault("slates 3;num 4;turn 0 by5by;", 1, 25);
        fault("slates 3;num 4;add 00;", 1, 21);
        fault("slates 3;nu m 4;", 1, 9);
        fault("slates 1 4;", 1, 9);
        due("one number, not two", Told.school("slates 12;").slates(0), 12);
    }

    /** Each prefix of a text: a FAULT at the end's place, or at a word that is not whole. */
    private static void textsMayEndBehindALineAlone() {
        String text = "slates 3; num 1;\nturn 0 by 5; add 0 1;";
        int[] lines = new int[text.length() + 1];
        for (int n = 1; n <= text.length(); n++) {
            lines[n] = lines[n - 1] + (text.charAt(n - 1) == ';' ? 1 : 0);
        }
        for (int n = 0; n <= text.length(); n++) {
            String part = text.substring(0, n);
            String last = part.substring(part.lastIndexOf(';') + 1);
            if (last.isBlank()) {
                right(part, lines[n]);
            } else {
                int word = part.length() - part.replaceAll("^(?s).*?([a-z]*)$", "$1").length();
                String unfinished = part.substring(word);
                boolean whole = java.util.List.of("", "slates", "num", "turn", "by", "add").contains(unfinished);
                fault(part, 1, whole ? n : word);
            }
        }
    }

    private static void firstFaultByPlace() {
        fault("slates 15 #", 2, 7);
        fault("slates # 15", 1, 7);
        fault("slates 3;num 1000003 x", 2, 13);
        fault("slates 3;num x 1000003", 1, 13);
        fault("slates 3;num 1;add 7 x;", 2, 19);
        fault("slates 3;num 1;add x 7;", 1, 19);
        fault("slates 3;num 1;turn 1 by 0;", 2, 20);
        fault("slates 3;num 1;turn 0 of 0;", 1, 22);
        // The end's place counts blanks ahead of it.
        fault("slates 3;num 1 \n ", 1, 17);
        fault("slates 3;num \n", 1, 14);
    }

    private static void valuesWrapAround() {
        SlatePlay x = Told.school("slates 1;num 1000002;num 1;num 0;add 0 1;less 2 1;less 2 0;times 0 0;"
                + "turn 0 by 1;turn 0 by 999;most 0 2;most 2 0;most 1 1;less 0 0;times 0 2;");
        int[] due = {1000002, 1, 0, 0, 1000002, 1, 1, 0, 998, 1000002, 1000002, 1, 0, 0};
        for (int v = 0; v < due.length; v++) {
            due("value(" + v + ")", x.value(v), due[v]);
        }
        SlatePlay y = Told.school("slates 1;num 1000001;num 1;add 0 1;turn 0 by 1;times 0 0;add 0 0;less 1 0;");
        int[] below = {1000001, 1, 1000002, 1000002, 4, 999999, 3};
        for (int v = 0; v < below.length; v++) {
            due("value(" + v + ") below", y.value(v), below[v]);
        }
    }

    private static void depths() {
        StringBuilder text = new StringBuilder("slates 1;num 1;");
        for (int v = 1; v < 14; v++) {
            text.append("turn ").append(v - 1).append(" by 1;");
        }
        SlatePlay x = Told.school(text.toString());
        due("DEPTH of num", x.sum(0, 5), 0);
        due("DEPTH of the last", x.sum(13, 5), 13);
        due("the deepest", x.count(5), 13);
        SlatePlay y = Told.school("slates 1;num 1;add 0 0;num 2;most 2 1;most 1 2;");
        due("the deeper is the second", y.sum(3, 5), 2);
        due("the deeper is the first", y.sum(4, 5), 2);
    }
}
