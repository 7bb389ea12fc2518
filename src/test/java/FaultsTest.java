import java.util.ArrayList;
import java.util.List;
import java.util.Random;
import java.util.regex.Matcher;
import java.util.regex.Pattern;

/** Promises 2 to 5 on texts drawn at random, right and wrong, against FAULTS found by patterns. */
public final class FaultsTest {
    private static final Check CHECK = new Check();
    private static final Random RANDOM = new Random(5);
    private static final Pattern TOKEN = Pattern.compile("[a-z]+|[0-9]+|[^ \n]");
    private static final String[] PIECES = {"slates", "num", "add", "less", "times", "most", "turn", "by", ";", ";",
        "0", "1", "2", "13", "14", "15", "999", "1000", "1000002", "1000003", "4294967296", "x", "#", "\t", "\200"};

    record Token(String text, int place) {
    }

    public static void main(String[] args) {
        for (int i = 0; i < 40000; i++) {
            ask(text());
        }
        CHECK.finish();
    }

    private static String text() {
        StringBuilder text = new StringBuilder();
        List<String> pieces = rightPieces();
        int changes = RANDOM.nextInt(3);
        for (int i = 0; i < changes && !pieces.isEmpty(); i++) {
            int at = RANDOM.nextInt(pieces.size());
            switch (RANDOM.nextInt(4)) {
                case 0 -> pieces.remove(at);
                case 1 -> pieces.add(at, PIECES[RANDOM.nextInt(PIECES.length)]);
                case 2 -> pieces.set(at, PIECES[RANDOM.nextInt(PIECES.length)]);
                default -> pieces = pieces.subList(0, at);
            }
        }
        for (String piece : pieces) {
            text.append(" \n".repeat(RANDOM.nextInt(2))).append(piece).append(RANDOM.nextInt(9) == 0 ? "" : " ");
        }
        return text.toString();
    }

    private static List<String> rightPieces() {
        List<String> pieces = new ArrayList<>(List.of("slates", "" + (1 + RANDOM.nextInt(14)), ";"));
        int sums = RANDOM.nextInt(4) == 0 ? 12 + RANDOM.nextInt(5) : RANDOM.nextInt(4);
        for (int v = 0; v < sums; v++) {
            String word = v == 0 ? "num" : PIECES[1 + RANDOM.nextInt(6)];
            pieces.add(word);
            pieces.add("" + RANDOM.nextInt(word.equals("num") ? 1000003 : v));
            if (word.equals("turn")) {
                pieces.addAll(List.of("by", "" + (1 + RANDOM.nextInt(999))));
            } else if (!word.equals("num")) {
                pieces.add("" + RANDOM.nextInt(v));
            }
            pieces.add(";");
        }
        return pieces;
    }

    private static void ask(String text) {
        int[] due = dueOf(text);
        SlatePlay x = new SlatePlay();
        CHECK.due("school of: " + text, Told.tell(x, text), due[0] == 0 ? due[2] : -4);
        CHECK.due("fault(0) of: " + text, x.fault(0), due[0]);
        CHECK.due("fault(1) of: " + text, x.fault(1), due[1]);
        CHECK.due("count(2) of: " + text, x.count(2), due[0] == 0 ? due[2] : 0);
    }

    /** FAULT, place, LINES. */
    private static int[] dueOf(String text) {
        List<Token> tokens = new ArrayList<>();
        Matcher m = TOKEN.matcher(text);
        while (m.find()) {
            tokens.add(new Token(m.group(), m.start()));
        }
        tokens.add(new Token("", text.length()));
        int lines = 0;
        int at = 0;
        while (at < tokens.size() - 1) {
            String word = tokens.get(at).text;
            int sums = lines - 1;
            String form = switch (word) {
                case "slates" -> lines == 0 ? "14" : null;
                case "num" -> lines == 0 ? null : "n";
                case "add", "less", "times", "most" -> lines == 0 ? null : "ss";
                case "turn" -> lines == 0 ? null : "sbt";
                default -> null;
            };
            if (form == null) {
                return new int[] {1, tokens.get(at).place, 0};
            }
            if (sums == 14) {
                return new int[] {3, tokens.get(at).place, 0};
            }
            form = (form.equals("14") ? "l" : form) + ";";
            for (char part : form.toCharArray()) {
                at++;
                int fault = faultOf(tokens.get(at).text, part, sums);
                if (fault != 0) {
                    return new int[] {fault, tokens.get(at).place, 0};
                }
            }
            at++;
            lines++;
        }
        return new int[] {0, -1, lines};
    }

    private static int faultOf(String token, char part, int sums) {
        if (part == 'b' || part == ';') {
            return token.equals(part == 'b' ? "by" : ";") ? 0 : 1;
        }
        if (!token.matches("[0-9]+")) {
            return 1;
        }
        java.math.BigInteger number = new java.math.BigInteger(token);
        long low = part == 'l' || part == 't' ? 1 : 0;
        long high = part == 'l' ? 14 : part == 't' ? 999 : part == 'n' ? 1000002 : sums - 1;
        boolean inside = number.compareTo(java.math.BigInteger.valueOf(low)) >= 0
                && number.compareTo(java.math.BigInteger.valueOf(high)) <= 0;
        return inside ? 0 : 2;
    }
}
