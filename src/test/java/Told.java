import java.nio.charset.StandardCharsets;

/** Tells SCHOOLS as texts. */
final class Told {
    private Told() {
    }

    static SlatePlay school(String text) {
        SlatePlay x = new SlatePlay();
        int lines = tell(x, text);
        if (lines < 0) {
            throw new IllegalStateException("fault " + x.fault(0) + " at " + x.fault(1) + " in: " + text);
        }
        return x;
    }

    static SlatePlay standing(String text, int... moves) {
        SlatePlay x = school(text);
        for (int move : moves) {
            int made = move < 100 ? x.move(move) : x.swap(move - 100);
            if (made < 0) {
                throw new IllegalStateException("move " + move + " is refused with " + made + " in: " + text);
            }
        }
        return x;
    }

    /** Feeds the text behind what the TAPE has, without the bytes that fill up the last twenty. */
    static void tape(SlatePlay x, String text) {
        tape(x, text.getBytes(StandardCharsets.ISO_8859_1));
    }

    static void tape(SlatePlay x, byte[] bytes) {
        int before = x.count(3);
        for (int i = 0; i < bytes.length; i += 20) {
            x.feed(number(bytes, i), number(bytes, i + 4), number(bytes, i + 8),
                    number(bytes, i + 12), number(bytes, i + 16));
        }
        x.end(before + bytes.length);
    }

    static int tell(SlatePlay x, String text) {
        tape(x, text);
        return x.school();
    }

    static void row(SlatePlay x, int slot, int width, long... numbers) {
        x.row(slot, width, numbers.length);
        for (int i = 0; i < numbers.length; i++) {
            x.write(slot, i, numbers[i]);
        }
    }

    private static int number(byte[] bytes, int at) {
        int number = 0;
        for (int i = at; i < at + 4; i++) {
            number = number << 8 | (i < bytes.length ? bytes[i] & 255 : 0);
        }
        return number;
    }
}
