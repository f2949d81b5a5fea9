import java.util.NoSuchElementException;
import java.util.Random;

/** Calls with wild arguments in wild states: nothing is thrown but by look, and the same calls answer the same. */
public final class WildCallsTest {
    private static final int[] INTS = {0, 1, 2, 3, 4, 5, 6, 7, 8, 11, 12, 19, 20, 99, 100, 999, 1000, 9999, 10000, 19999,
        20000, 99999, 100000, 1000000000, 1000000001, -1, -2, Integer.MAX_VALUE, Integer.MIN_VALUE};
    private static final long[] LONGS = {0, 1, 9, 19999, 99999, 1000000000000L, 999999999999L, 1000000000001L,
        999999980000L, -1, Long.MAX_VALUE, Long.MIN_VALUE, 4000000000L};
    private static final String[] PARTS = {"land", "from", "week", "moon", "sun", "feast", "person", "died", "deed",
        "years", "days", "till", "pay", "note", "year", "day", "season", "alive", "after", "or", "and", "not", "length",
        ";", ";", ";", "(", ")", "+", "-", "*", "/", "%", "<", ">", "=", "<>", "<=", ">=", "a", "b", "c", "0", "1", "2",
        "7", "9", "30", "99", "9999", "99999", "100000", "abcdefg", "?", "land a 9999 99 from 99999;", "land b 1 0;",
        "land c 9999 -1;", "week 30 29;", "moon 9999 99 9998;", "sun 9999 99;", "feast a day = 1;",
        "feast b year * year * year;", "person a 1 1;", "person b 1 1 died 1 1;", "deed a 1 1 years 999 pay 999;",
        "deed b 1 1 till a pay 1;", "deed c 1 1 days 99999 pay 999;", "note a day 1;", "note b after a -9999;",
        "note c feast a alive a;"};

    public static void main(String[] args) {
        for (int seed = 0; seed < 600; seed++) {
            long once = answers(seed);
            Check.due("answers of seed " + seed + " once more", answers(seed), once);
        }
        Check.end();
    }

    private static long answers(int seed) {
        Random random = new Random(seed);
        LongYears x = new LongYears();
        long sum = 0;
        if (random.nextInt(4) > 0) {
            sum = Check.tell(x, "land a " + (1 + random.nextInt(9999)) + " " + (random.nextInt(199) - 99) + ";"
                    + "land b " + (1 + random.nextInt(400)) + " " + (random.nextInt(7) - 3) + ";land c 1 0;"
                    + "feast a day = 1;feast b year * year * year;person a 1 1;deed a 1 1 years 999 pay 999;"
                    + "deed b 1 1 till a pay 1;note a day 1;note b after a -9999;note c feast a alive a;");
        }
        for (int i = 0; i < 300; i++) {
            sum = sum * 31 + (random.nextInt(40) == 0 ? wildText(x, random) : call(x, random));
        }
        return sum;
    }

    private static long wildText(LongYears x, Random random) {
        StringBuilder text = new StringBuilder();
        int most = random.nextInt(40);
        for (int i = 0; i < most && text.length() < 850; i++) {
            text.append(PARTS[random.nextInt(PARTS.length)]).append(random.nextInt(9) == 0 ? "" : " ");
        }
        int lines = Check.tell(x, text.toString());
        return lines * 7L + x.fault(0) * 1000L + x.fault(1);
    }

    private static int some(Random random) {
        return random.nextInt(3) > 0 ? random.nextInt(4) : INTS[random.nextInt(INTS.length)];
    }

    private static long far(Random random) {
        int dice = random.nextInt(3);
        return dice == 0 ? random.nextInt(30000) : dice == 1 ? LONGS[random.nextInt(LONGS.length)]
                : (long) (random.nextDouble() * 1000000000000L);
    }

    private static long call(LongYears x, Random random) {
        int a = some(random);
        int b = some(random);
        int c = some(random);
        long far = far(random);
        switch (random.nextInt(37)) {
            case 0: return x.feed(a, b, c, (int) far, b);
            case 1: return x.text(random.nextInt(9) == 0 ? a : -1);
            case 2: return x.fault(a);
            case 3: return x.named(a, b << 25);
            case 4: return look(x, a, b);
            case 5: return x.length(a, b);
            case 6: return x.date(a, far, b);
            case 7: return x.count(a, b, far);
            case 8: return x.round(far, a);
            case 9: return x.feast(a, far);
            case 10: return x.festive(a, far);
            case 11: return x.rule(a, far);
            case 12: return x.life(a, b);
            case 13: return x.age(a, far, b);
            case 14: return x.elder(a, b);
            case 15: return x.often(a, b, c, far);
            case 16: return x.springs(a, b);
            case 17: return x.many(a, b, c);
            case 18: return x.next(far, a, b, c);
            case 19: return x.alike(a, b, far, random.nextBoolean());
            case 20: return x.deed(a, b, c);
            case 21: return x.ends(a, far, b);
            case 22: return x.hire(a, far, b, c);
            case 23: return x.parts(a, b, c);
            case 24: return x.months(a, b, c);
            case 25: return x.note();
            case 26: return x.says(a + random.nextInt(5), b, c) ? 1 : 0;
            case 27: return x.undo();
            case 28: return x.alone(a, b);
            case 29: return x.fits(a, b);
            case 30: return x.gap();
            case 31: return x.told(a, b);
            case 32: return x.judged();
            case 33: return random.nextInt(9) == 0 ? x.forget() : 0;
            case 34: return x.keep();
            case 35: return x.back();
            default: return x.size(a);
        }
    }

    private static long look(LongYears x, int land, int what) {
        try {
            return x.look(land, what);
        } catch (IndexOutOfBoundsException e) {
            boolean own = e.getClass() == IndexOutOfBoundsException.class && (land < 0 || land >= x.size(0));
            Check.due("look throws for a land that is not there alone", own, true);
            return -77;
        } catch (NoSuchElementException e) {
            Check.due("look throws for a what that is not there alone", what < 0 || what > 2, true);
            return -78;
        }
    }
}
