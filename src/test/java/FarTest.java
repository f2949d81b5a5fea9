import java.util.Random;

/** Counts and years however far: what is asked there, against years walked one by one from a begin worked out. */
public final class FarTest {
    private static final long LAST = 1000000000000L;
    private static final Random RANDOM = new Random(6);

    private static int[][] lands;
    private static int[] sun;
    private static int[] born;
    private static int[] deed;
    private static LongYears x;
    private static String of;

    public static void main(String[] args) {
        for (int i = 0; i < 150; i++) {
            tell();
            for (int land = 0; land < lands.length; land++) {
                for (int j = 0; j < 8; j++) {
                    dates(land, someCount());
                    ends(land, someCount());
                    springs(land, someCount());
                    age(land, someCount());
                }
                deeds(land);
            }
            first(someCount());
            first(LAST - chance(0, 25000));
        }
        Check.end();
    }

    private static int chance(int least, int most) {
        return least + RANDOM.nextInt(most - least + 1);
    }

    private static long someCount() {
        int dice = RANDOM.nextInt(8);
        return dice == 0 ? LAST - chance(0, 300) : (long) (Math.pow(RANDOM.nextDouble(), dice) * LAST);
    }

    private static void tell() {
        StringBuilder text = new StringBuilder();
        lands = new int[4][];
        for (int i = 0; i < 4; i++) {
            int growth = RANDOM.nextInt(3) == 0 ? 0 : RANDOM.nextBoolean() ? chance(1, 3) : chance(1, 99);
            lands[i] = new int[] {chance(1, RANDOM.nextBoolean() ? 12 : 9999), growth, chance(0, 99999)};
            text.append("land l").append((char) ('a' + i)).append(' ').append(lands[i][0]).append(' ')
                    .append(lands[i][1]).append(" from ").append(lands[i][2]).append(';');
        }
        int by = chance(1, 99);
        sun = new int[] {chance(8 * by, 9999), by};
        text.append("sun ").append(sun[0]).append(' ').append(by).append(';');
        text.append("feast f day = 3 and year % 2 = 1;");
        text.append("feast g length - day * 2 > 0;");
        born = dateOfChance();
        text.append("person p ").append(born[0]).append(' ').append(born[1]).append(';');
        int[] at = dateOfChance();
        deed = new int[] {at[0], at[1], chance(0, 999), chance(0, 999)};
        text.append("deed d ").append(at[0]).append(' ').append(at[1]).append(" years ").append(deed[2])
                .append(" pay ").append(deed[3]).append(';');
        of = " of <" + text + ">";
        x = Check.told(text.toString());
    }

    private static int[] dateOfChance() {
        int year = RANDOM.nextBoolean() ? chance(1, 300) : chance(1, 99999);
        return new int[] {year, (int) Math.min(99999, 1 + (long) (RANDOM.nextDouble() * length(0, year)))};
    }

    private static long length(int land, long year) {
        return lands[land][0] + (year - 1) * lands[land][1];
    }

    /** As the sum of the years ahead, paired from both ends. */
    private static long begin(int land, long year) {
        return lands[land][2] + (year < 2 ? 0 : sum(length(land, 1) + length(land, year - 1), year - 1));
    }

    private static long sum(long pair, long many) {
        return many % 2 == 0 ? many / 2 * pair : pair % 2 == 0 ? pair / 2 * many : many / 2 * pair + pair / 2;
    }

    /** The year and day, found by steps that become smaller. */
    private static long[] date(int land, long count) {
        if (count < lands[land][2]) {
            return new long[] {-1, -1};
        }
        long year = 1;
        for (long step = lands[land][1] == 0 ? 1L << 40 : 1L << 21; step > 0; step /= 2) {
            year += begin(land, year + step) <= count ? step : 0;
        }
        return new long[] {year, count - begin(land, year) + 1};
    }

    private static void dates(int land, long count) {
        long[] date = date(land, count);
        Check.due("date(" + land + ", " + count + ", 0)" + of, x.date(land, count, 0), date[0]);
        Check.due("date(" + land + ", " + count + ", 1)" + of, x.date(land, count, 1), date[1]);
        if (date[0] > 0 && date[0] <= 1000000000) {
            int year = (int) date[0];
            Check.due("count(" + land + ", " + year + ", " + date[1] + ")" + of, x.count(land, year, date[1]), count);
            Check.due("length(" + land + ", " + year + ")" + of, x.length(land, year), length(land, year));
        }
    }

    private static long endsOf(int land, long count, long m) {
        long year = Math.max(1, date(land, count)[0]);
        long ends = 0;
        for (long end = begin(land, year + 1) - 1; end <= count + m; end += length(land, year)) {
            ends += end > count ? 1 : 0;
            year++;
        }
        return ends;
    }

    private static void ends(int land, long count) {
        int m = RANDOM.nextBoolean() ? chance(1, 99) : chance(1, 99999);
        Check.due("ends(" + land + ", " + count + ", " + m + ")" + of, x.ends(land, count, m),
                count + m > LAST ? -1 : endsOf(land, count, m));
        int n = chance(0, 20);
        m = chance(1, 200);
        long best = count;
        for (long then = count; then <= count + n; then++) {
            best = endsOf(land, then, m) > endsOf(land, best, m) ? then : best;
        }
        Check.due("hire(" + land + ", " + count + ", " + n + ", " + m + ")" + of, x.hire(land, count, n, m),
                count + n + m > LAST ? -1 : best);
    }

    /** Springs tried one by one: the least count at k times P by Q at least. */
    private static long springsOf(int land, long year) {
        long begin = begin(land, year);
        long end = begin + length(land, year) - 1;
        long springs = 0;
        for (long k = Math.max(0, begin / sun[0] * sun[1] - 1); (k * sun[0] + sun[1] - 1) / sun[1] <= end; k++) {
            springs += (k * sun[0] + sun[1] - 1) / sun[1] >= begin ? 1 : 0;
        }
        return springs;
    }

    private static void springs(int land, long count) {
        long year = date(land, count)[0];
        if (year < 1 || year > 1000000000) {
            return;
        }
        long springs = springsOf(land, year);
        Check.due("springs(" + land + ", " + year + ")" + of, x.springs(land, (int) year), springs);
        int n = (int) Math.min(99, springs + chance(0, 1));
        long due = -2;
        for (long then = year; due == -2 && then < year + 1000 && begin(land, then) <= LAST; then++) {
            // years in which there is room for more than n springs need no walk
            boolean few = length(land, then) * sun[1] <= (n + 2L) * sun[0];
            due = few && then <= 1000000000 && springsOf(land, then) == n ? then : due;
        }
        Check.due("many(" + land + ", " + year + ", " + n + ")" + of, x.many(land, (int) year, n), due);
    }

    private static void age(int land, long count) {
        long birth = begin(0, born[0]) + born[1] - 1;
        Check.due("life(0, 0)" + of, x.life(0, 0), birth);
        long then = Math.min(LAST, birth + count / 3);
        long[] of0 = date(land, birth);
        long[] now = date(land, then);
        long age = now[0] - of0[0] - (now[1] < of0[1] ? 1 : 0);
        Check.due("age(0, " + then + ", " + land + ")" + of, x.age(0, then, land), of0[0] < 0 ? -1 : Math.max(0, age));
    }

    private static void deeds(int land) {
        long at = begin(0, deed[0]) + deed[1] - 1;
        long[] date = date(land, at);
        boolean dated = date[0] > 0;
        Check.due("deed(0, " + land + ", 0)" + of, x.deed(0, land, 0), dated ? at : -1);
        long due = dated ? begin(land, date[0] + deed[2]) + date[1] - 1 : -1;
        due = due > LAST ? -1 : due;
        Check.due("deed(0, " + land + ", 1)" + of, x.deed(0, land, 1), due);
        long pay = due < 0 ? -1 : endsOf(land, at, due - at) * deed[3];
        Check.due("deed(0, " + land + ", 2)" + of, x.deed(0, land, 2), pay);
    }

    private static void first(long count) {
        long next = -2;
        long festive = -2;
        long alike = -2;
        int day = chance(1, 9);
        for (long then = count; then < count + 20000 && then <= LAST; then++) {
            long[] date = date(0, then);
            next = next == -2 && date[1] == day ? then : next;
            festive = festive == -2 && date[1] == 3 && date[0] % 2 == 1 ? then : festive;
            alike = alike == -2 && date[1] > 0 && date(1, then)[1] == date[1] ? then : alike;
        }
        Check.due("next(" + count + ", " + day + ", -1, -1)" + of, x.next(count, day, -1, -1), next);
        Check.due("festive(0, " + count + ")" + of, x.festive(0, count), festive);
        Check.due("alike(0, 1, " + count + ", false)" + of, x.alike(0, 1, count, false), alike);
        long[] date = date(0, count);
        long value = date[0] > 0 && length(0, date[0]) - date[1] * 2 > 0 ? 1 : 0;
        Check.due("rule(1, " + count + ")" + of, x.rule(1, count), value);
    }
}
