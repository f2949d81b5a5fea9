import java.util.Random;

/** Texts of chance with faults, and rules without brackets around each sign, against the plain reader. */
public final class AgainstPlainReaderTest {
    private static final Random RANDOM = new Random(38);
    private static final String[] TOKENS = ("land from week moon sun feast person died deed years days till pay note year "
            + "day season alive after or and not length a b c d e f g abcdef abcdefg ; ; ; ( ) + - * / % < <= = <> >= > "
            + "? ! A 0 1 2 3 7 8 9 30 31 59 99 100 999 1000 9999 10000 99999 100000 4294967297").split(" ");
    private static final String[] SIGNS = "+ - * / % < <= = <> >= > and or + - * and or".split(" ");
    private static final String[] NAMES = "day year week moon season length".split(" ");
    private static int[] met = new int[6];

    public static void main(String[] args) {
        for (int i = 0; i < 60000; i++) {
            compare(RANDOM.nextInt(3) == 0 ? text() : spoilt(text()));
        }
        for (int fault = 0; fault <= 5; fault++) {
            Check.due("fault " + fault + " is met often", met[fault] > 500, true);
        }
        for (int i = 0; i < 5000; i++) {
            compareValues("feast f " + rule(2 + RANDOM.nextInt(12), 0) + ";");
        }
        Check.end();
    }

    private static void compare(String text) {
        if (text.length() > 900) {
            return;
        }
        PlainReader reader = new PlainReader(text);
        LongYears x = new LongYears();
        String of = " of <" + text + ">";
        Check.due("lines" + of, Check.tell(x, text), reader.lines);
        Check.due("fault" + of, x.fault(0), reader.fault);
        Check.due("place" + of, x.fault(1), reader.place);
        met[reader.fault]++;
        for (int kind = 0; kind < 5 && reader.fault == 0; kind++) {
            Check.due("size " + kind + of, x.size(kind), reader.told(kind));
        }
        Check.due("knots" + of, x.size(5), reader.fault == 0 ? reader.knots : 0);
    }

    private static void compareValues(String text) {
        PlainReader reader = new PlainReader(text);
        LongYears x = new LongYears();
        if (Check.tell(x, "land a 5 1;" + text) < 0) {
            Check.due("fault of <" + text + ">", reader.fault != 0, true);
            return;
        }
        for (int i = 0; i < 8; i++) {
            int count = RANDOM.nextInt(3000);
            long year = x.date(0, count, 0);
            Long due = reader.value(0, x.date(0, count, 1), year, x.round(count, 0), x.round(count, 1),
                    x.round(count, 2), x.length(0, (int) year));
            Check.due("rule(0, " + count + ") of <" + text + ">", x.rule(0, count), due == null ? Long.MIN_VALUE : due);
        }
    }

    // ---- texts without a fault, mostly

    private static int chance(int least, int most) {
        int dice = RANDOM.nextInt(8);
        return dice == 0 ? least : dice == 1 ? most : least + RANDOM.nextInt(most - least + 1);
    }

    private static String letter() {
        return Character.toString((char) ('a' + RANDOM.nextInt(5)));
    }

    private static String text() {
        StringBuilder text = new StringBuilder();
        int lines = RANDOM.nextInt(9);
        for (int i = 0; i < lines; i++) {
            text.append(line()).append(RANDOM.nextInt(6) == 0 ? " ; " : ";");
        }
        return text.toString();
    }

    private static String line() {
        switch (RANDOM.nextInt(10)) {
            case 0: return "week " + chance(2, 30) + " " + chance(0, 8);
            case 1: return "moon " + chance(700, 9999) + " " + chance(1, 88) + " " + chance(0, 700);
            case 2: return "sun " + chance(700, 9999) + " " + chance(1, 88);
            case 3: return "feast " + letter() + " " + rule(1 + RANDOM.nextInt(9), 0);
            case 4: return "person " + letter() + date() + (RANDOM.nextBoolean() ? "" : " died" + date());
            case 5: return "deed " + letter() + date() + term() + " pay " + chance(0, 999);
            case 6:
            case 7: return note();
            default: return "land " + letter() + " " + chance(1, 9999) + (RANDOM.nextBoolean() ? " " : " - ")
                    + chance(0, 99) + (RANDOM.nextBoolean() ? "" : " from " + chance(0, 99999));
        }
    }

    private static String date() {
        return " " + chance(0, RANDOM.nextBoolean() ? 9 : 99999) + " " + chance(0, RANDOM.nextBoolean() ? 9 : 99999);
    }

    private static String term() {
        int dice = RANDOM.nextInt(3);
        return dice == 0 ? " years " + chance(0, 999) : dice == 1 ? " days " + chance(0, 99999) : " till " + letter();
    }

    private static String note() {
        StringBuilder note = new StringBuilder("note " + letter());
        int words = RANDOM.nextInt(4);
        for (int i = 0; i < words; i++) {
            int from = chance(1, 9999);
            String[] says = {" year " + from + " " + chance(1, 9999), " day " + chance(1, 99999),
                " week " + chance(0, 99999), " moon " + chance(0, 7), " season " + chance(0, 3), " alive " + letter(),
                " feast " + letter(), " after " + letter() + " " + chance(0, 9999), " after " + letter() + "-" + from};
            note.append(says[RANDOM.nextInt(says.length)]);
        }
        return note.toString();
    }

    /** A rule of so many parts, with few brackets. */
    private static String rule(int parts, int depth) {
        StringBuilder rule = new StringBuilder();
        boolean compared = false;
        for (int i = 0; i < parts; i++) {
            boolean fresh = rule.length() == 0 || rule.toString().endsWith("and ") || rule.toString().endsWith("or ");
            compared = !fresh && compared;
            while (fresh && RANDOM.nextInt(4) == 0) {
                rule.append("not ");
            }
            rule.append(part(depth)).append(' ');
            if (i < parts - 1) {
                String sign = SIGNS[RANDOM.nextInt(SIGNS.length)];
                boolean compares = "<>=".indexOf(sign.charAt(0)) >= 0;
                sign = compares && compared && RANDOM.nextInt(30) > 0 ? "+" : sign;
                compared = compared || compares;
                rule.append(sign).append(' ');
            }
        }
        return rule.toString();
    }

    private static String part(int depth) {
        int dice = RANDOM.nextInt(10);
        if (dice < 2 && depth < 3 || dice == 9 && RANDOM.nextInt(9) == 0) {
            return "(" + (RANDOM.nextInt(30) == 0 && depth < 9 ? "(((((((" + rule(1, 9) + ")))))))" : rule(
                    1 + RANDOM.nextInt(3), depth + 1)) + ")";
        }
        return dice < 6 ? NAMES[RANDOM.nextInt(6)] : Integer.toString(RANDOM.nextInt(3) == 0 ? chance(0, 9999)
                : RANDOM.nextInt(4));
    }

    // ---- faults

    private static String spoilt(String text) {
        String[] parts = text.split("(?<=[ ;(])|(?=[;)])");
        int at = RANDOM.nextInt(parts.length);
        String token = TOKENS[RANDOM.nextInt(TOKENS.length)] + (RANDOM.nextInt(5) == 0 ? "" : " ");
        switch (RANDOM.nextInt(5)) {
            case 0: parts[at] = token; break;
            case 1: parts[at] = ""; break;
            case 2: parts[at] += token; break;
            case 3: return text.substring(0, RANDOM.nextInt(text.length() + 1));
            default:
                int other = RANDOM.nextInt(parts.length);
                String held = parts[at];
                parts[at] = parts[other];
                parts[other] = held;
        }
        return String.join("", parts);
    }
}
