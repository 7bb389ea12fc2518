/** All that can be told of an object from outside, by calls that use it up: two objects that answer alike are alike. */
final class Whole {
    /** SUM 0 STANDS and all others are turns of it, so that each number of a row leads to an end of its own. */
    private static final String PROBE = "slates 14;num 0;" + "turn 0 by 1;".repeat(13);

    private final SlatePlay x;
    private final StringBuilder told = new StringBuilder();

    private Whole(SlatePlay x) {
        this.x = x;
    }

    static String of(SlatePlay x) {
        Whole whole = new Whole(x);
        whole.told.append("fault ").append(x.fault(0)).append(" at ").append(x.fault(1));
        whole.tellSchool();
        whole.tellImages();
        whole.tellTape();
        whole.tellRows();
        return whole.told.toString();
    }

    /** But for the TAPE and the FAULT, which a school() that is refused may change. */
    static String withoutTape(SlatePlay x) {
        Whole whole = new Whole(x);
        x.end(0);
        whole.tellSchool();
        whole.tellImages();
        whole.tellRows();
        return whole.told.toString();
    }

    /** SCHOOL, slates and what STANDS alone, which uses nothing up. */
    static String schoolOf(SlatePlay x) {
        Whole whole = new Whole(x);
        whole.tellSchool();
        return whole.told.toString();
    }

    private void tellSchool() {
        told.append(" | counts");
        for (int what = 0; what <= 7; what++) {
            told.append(' ').append(x.count(what));
        }
        told.append(" slates");
        for (int what = 0; what <= 3; what++) {
            told.append(' ').append(x.slates(what));
        }
        told.append(" stands ").append(x.stands(0)).append(' ').append(x.stands(1)).append(' ').append(x.stands(2));
        told.append(" may ").append(x.may(0)).append(' ').append(x.may(1)).append(" sums");
        int sums = x.count(0);
        for (int v = 0; v < sums; v++) {
            told.append(' ').append(x.sum(v, 0)).append(',').append(x.sum(v, 1)).append(',').append(x.sum(v, 2));
            told.append('=').append(x.value(v)).append(':').append(x.board(v));
        }
    }

    private void tellImages() {
        for (int k = 0; k < 3; k++) {
            int gone = x.back(k);
            told.append(" | image ").append(k).append(' ').append(gone);
            if (gone == 0) {
                tellSchool();
            }
        }
    }

    private void tellTape() {
        told.append(" | tape ").append(x.school()).append(' ').append(x.fault(0)).append(' ').append(x.fault(1));
        tellSchool();
    }

    private void tellRows() {
        Told.tell(x, PROBE);
        x.move(0);
        boolean[] bare = new boolean[4];
        int spare = -1;
        for (int slot = 0; slot < 4; slot++) {
            bare[slot] = x.judge(slot) == -6;
            spare = bare[slot] ? slot : spare;
        }
        if (spare < 0) {
            throw new IllegalStateException("a SLOT must be left for looking at the others");
        }
        for (int slot = 0; slot < 4; slot++) {
            told.append(" | slot ").append(slot);
            if (bare[slot]) {
                told.append(" bare");
            } else {
                tellRow(slot, spare);
            }
        }
    }

    private void tellRow(int slot, int spare) {
        int width = 0;
        x.row(spare, width, 1);
        while (x.paste(slot, 0, spare, 0, 0) == -8 && width < 3) {
            width++;
            x.row(spare, width, 1);
        }
        told.append(" width ").append(width).append(':');
        for (int i = 0; i < 60 && x.paste(slot, i, spare, 0, 1) == 0; i++) {
            told.append(' ').append(x.ends(spare));
        }
    }
}
