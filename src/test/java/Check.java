import java.nio.charset.StandardCharsets;
import java.util.Arrays;

/** What all tests of the project share: texts fed as numbers, answers compared and counted. */
final class Check {
    private static int asked;
    private static int wrong;
    private static String sentence = "";
    private static int askedAhead = -1;

    private Check() {
    }

    static void due(String what, long got, long want) {
        asked++;
        if (got != want) {
            wrong++;
            System.out.println(sentence + what + " answered " + got + ", due is " + want);
        }
    }

    /** The answers from here on are about this sentence of the document; the one ahead must have had some. */
    static void sentence(String words) {
        endSentence();
        sentence = "[" + words + "] ";
        askedAhead = asked;
    }

    private static void endSentence() {
        if (asked == askedAhead) {
            wrong++;
            System.out.println(sentence + "nothing was asked");
        }
    }

    static void due(String what, boolean got, boolean want) {
        due(what, got ? 1 : 0, want ? 1 : 0);
    }

    static void end() {
        endSentence();
        System.out.println(asked + " answers, " + wrong + " of them not as due");
        if (wrong != 0 || asked == 0) {
            System.exit(1);
        }
    }

    static LongYears told(String text) {
        LongYears years = new LongYears();
        int lines = tell(years, text);
        int want = (int) text.chars().filter(sign -> sign == ';').count();
        due("text of <" + text + ">", lines, want);
        return years;
    }

    static int tell(LongYears years, String text) {
        byte[] bytes = text.getBytes(StandardCharsets.ISO_8859_1);
        feed(years, bytes);
        return years.text(bytes.length);
    }

    static void feed(LongYears years, byte[] bytes) {
        for (int at = 0; at < bytes.length; at += 20) {
            byte[] bite = Arrays.copyOf(Arrays.copyOfRange(bytes, at, Math.min(bytes.length, at + 20)), 20);
            years.feed(four(bite, 0), four(bite, 4), four(bite, 8), four(bite, 12), four(bite, 16));
        }
    }

    private static int four(byte[] bytes, int at) {
        int four = 0;
        for (int i = 0; i < 4; i++) {
            four = four << 8 | bytes[at + i] & 255;
        }
        return four;
    }

    static int letters(String name) {
        int letters = 0;
        for (int i = 0; i < 6; i++) {
            letters = letters << 5 | (i < name.length() ? name.charAt(i) - 'a' + 1 : 0);
        }
        return letters;
    }

    static void fault(String text, int fault, int place) {
        LongYears years = new LongYears();
        int lines = tell(years, text);
        due("text of <" + text + ">", lines, fault == 0 ? (int) text.chars().filter(sign -> sign == ';').count() : -1);
        due("fault of <" + text + ">", years.fault(0), fault);
        due("place of the fault of <" + text + ">", years.fault(1), place);
    }
}
