/** Promises 50, 51, 53 and 54: walks drawn, and IMAGES. */
public final class WalksTest {
    private static final Check CHECK = new Check();

    public static void main(String[] args) {
        walks();
        walksByNumbersAside();
        walksRefused();
        images();
        imageOfNoSchool();
        imagesAreNotShared();
        CHECK.finish();
    }

    private static void walks() {
        SlatePlay x = Told.school("slates 2;num 1;num 2;num 3;");
        // Seed 0: x is 12345 (0), then 1406932606 (21468), then 654583775 (9988), then 1449466924 (22117).
        // Of 3 the 0th: SUM 0. Of 3 the 21468 % 3 = 0th: SUM 0 away. Of 3 the 9988 % 3 = 1st: SUM 1.
        // Then of 3 the 22117 % 3 = 1st: SUM 1 away.
        int[] at = {0, 1, 0, 2, 0};
        int[] seen = {1, 2, 2, 3, 3};
        for (int n = 0; n < at.length; n++) {
            CHECK.due("walk(0, " + n + ")", x.walk(0, n), at[n]);
            CHECK.due("seen(0, " + n + ")", x.seen(0, n), seen[n]);
        }
        CHECK.due("in thought", x.stands(0), 0);
        SlatePlay y = Told.school("slates 1;num 1;turn 0 by 1;");
        // One choice, then of 0 and 101 the 21468 % 2 = 0th, then one, then of two the 22117 % 2 = 1st.
        CHECK.due("walk to a turn", y.walk(0, 4), 2);
        CHECK.due("seen to a turn", y.seen(0, 4), 3);
    }

    private static void walksByNumbersAside() {
        SlatePlay x = Told.standing("slates 1;num 1;", 0);
        x.smudge(0, 5);
        CHECK.due("a wrong number is wiped", x.walk(7, 1), 0);
        CHECK.due("and written again", x.walk(7, 2), 1);
        CHECK.due("seen", x.seen(7, 200), 2);
        CHECK.due("walk(greatest)", x.walk(2000000000, 200), 1);
        CHECK.due("it STANDS as it did", x.board(0), 5);
    }

    private static void walksRefused() {
        SlatePlay x = Told.school("slates 1;num 1;");
        int[][] wrong = {{-1, 0}, {2000000001, 0}, {0, -1}, {0, 201}, {Integer.MIN_VALUE, 1}, {1, Integer.MAX_VALUE}};
        for (int[] w : wrong) {
            CHECK.due("walk(" + w[0] + ", " + w[1] + ")", x.walk(w[0], w[1]), -2);
            CHECK.due("seen(" + w[0] + ", " + w[1] + ")", x.seen(w[0], w[1]), -2);
        }
        CHECK.due("walk without SCHOOL", new SlatePlay().walk(0, 0), -2);
        CHECK.due("seen without SCHOOL", new SlatePlay().seen(0, 0), -2);
    }

    private static void images() {
        SlatePlay x = Told.standing("slates 3;num 1;turn 0 by 4;", 0);
        for (int k : new int[] {-1, 3, Integer.MIN_VALUE, Integer.MAX_VALUE}) {
            CHECK.due("image(" + k + ")", x.image(k), -2);
            CHECK.due("back(" + k + ")", x.back(k), -2);
        }
        CHECK.due("back of nothing", x.back(2), -6);
        x.smudge(0, 9);
        x.lend(2);
        CHECK.due("image(2)", x.image(2), 0);
        x.lose(0);
        x.give(1);
        x.feed(1, 2, 3, 4, 5);
        x.row(1, 1, 1);
        CHECK.due("back of another", x.back(1), -6);
        CHECK.due("back(2)", x.back(2), 0);
        CHECK.due("stands(0)", x.stands(0), 1);
        CHECK.due("board(0)", x.board(0), 9);
        CHECK.due("slates(0)", x.slates(0), 5);
        CHECK.due("slates(2)", x.slates(2), 2);
        CHECK.due("slates(3)", x.slates(3), 0);
        CHECK.due("the TAPE is as it was", x.count(3), 20);
        CHECK.due("the SLOTS are as they were", x.count(7), 1);
        x.end(0);
        Told.tell(x, "slates 7;num 5;num 6;times 0 1;");
        x.move(1);
        CHECK.due("back to another SCHOOL", x.back(2), 0);
        CHECK.due("count(0)", x.count(0), 2);
        CHECK.due("count(2)", x.count(2), 3);
        CHECK.due("sum(1, 0)", x.sum(1, 0), 5);
        CHECK.due("sum(1, 2)", x.sum(1, 2), 4);
        CHECK.due("sum(0, 4)", x.sum(0, 4), 1);
        CHECK.due("sum(1, 3)", x.sum(1, 3), 1);
        CHECK.due("sum(1, 5)", x.sum(1, 5), 1);
        CHECK.due("value(1)", x.value(1), 5);
        CHECK.due("swap", x.swap(1), 1);
        CHECK.due("by its number", x.board(1), 13);
        CHECK.due("move(0)", x.move(0), 1);
    }

    private static void imageOfNoSchool() {
        SlatePlay x = new SlatePlay();
        CHECK.due("image of no SCHOOL", x.image(0), 0);
        Told.tell(x, "slates 1;num 1;");
        x.move(0);
        CHECK.due("back to no SCHOOL", x.back(0), 0);
        CHECK.due("stands(0)", x.stands(0), -2);
        CHECK.due("count(0)", x.count(0), 0);
        CHECK.due("count(4)", x.count(4), 0);
    }

    private static void imagesAreNotShared() {
        SlatePlay x = Told.standing("slates 3;num 1;num 2;", 0);
        x.image(0);
        x.move(1);
        x.image(1);
        x.smudge(1, 8);
        x.image(2);
        x.back(0);
        CHECK.due("IMAGE 0", x.stands(0), 1);
        x.smudge(0, 77);
        x.back(1);
        CHECK.due("IMAGE 1", x.board(1), 2);
        CHECK.due("IMAGE 1 has its own number", x.board(0), 1);
        x.back(2);
        CHECK.due("IMAGE 2", x.board(1), 8);
        x.back(0);
        CHECK.due("IMAGE 0 again", x.board(0), 1);
        x.image(1);
        x.back(1);
        CHECK.due("IMAGE 1 in place of another", x.stands(0), 1);
    }
}
