import java.util.function.IntToLongFunction;
import java.util.function.LongUnaryOperator;

/** Each sentence that names a boundary, of Terms about lands, sky, feasts, people, deeds, and of promises 7 to 26. */
public final class EdgesOfYearsTest {
    private static final int NONE = -1;
    private static final int SPENT = -2;
    private static final long LAST = 1000000000000L;
    private static final int LAST_YEAR = 1000000000;
    private static final long ERROR = Long.MIN_VALUE;
    private static final int MIN = Integer.MIN_VALUE;
    private static final int MAX = Integer.MAX_VALUE;

    public static void main(String[] args) {
        noSuchLand();
        noSuchFeast();
        noSuchPerson();
        noSuchDeed();
        noSuchCount();
        noSuchWhat();
        noSuchYear();
        length();
        lastYearOfShrinkingLands();
        date();
        farDates();
        count();
        week();
        moonAndSeason();
        feasts();
        festive();
        values();
        errors();
        life();
        age();
        elder();
        often();
        springs();
        many();
        next();
        alike();
        deedYears();
        deedDays();
        deedTill();
        deedNone();
        pay();
        ends();
        hire();
        parts();
        months();
        Check.end();
    }

    /** As many of each kind as there may be. */
    private static LongYears full() {
        StringBuilder text = new StringBuilder();
        for (char name = 'a'; name <= 'd'; name++) {
            text.append("land ").append(name).append(" 9 0;feast ").append(name).append(" 1;");
        }
        for (char name = 'a'; name <= 'f'; name++) {
            text.append("person ").append(name).append(" 1 1;");
            if (name <= 'd') {
                text.append("deed ").append(name).append(" 1 1 years 1 pay 1;");
            }
        }
        return Check.told(text.toString());
    }

    /** The first and the last of so many are there, others are not. */
    private static void indices(String call, IntToLongFunction asked, int many, long none) {
        Check.due(call + " of 0", asked.applyAsLong(0) != none, true);
        Check.due(call + " of " + (many - 1), asked.applyAsLong(many - 1) != none, true);
        for (int index : new int[] {-1, -2, many, many + 1, 31, 32, MIN, MAX}) {
            Check.due(call + " of " + index, asked.applyAsLong(index), none);
        }
    }

    private static void noSuchLand() {
        Check.sentence("promises 7 to 9, 15, 17 to 19, 21 to 26: NONE: no such LAND");
        LongYears x = full();
        indices("length", land -> x.length(land, 1), 4, NONE);
        indices("date", land -> x.date(land, 0, 0), 4, NONE);
        indices("count", land -> x.count(land, 1, 1), 4, NONE);
        indices("age", land -> x.age(0, 0, land), 4, NONE);
        indices("often", land -> x.often(land, 1, 1, 1), 4, NONE);
        indices("springs", land -> x.springs(land, 1), 4, NONE);
        indices("many", land -> x.many(land, 1, 1), 4, NONE);
        indices("alike, one", land -> x.alike(land, land == 3 ? 2 : 3, 0, false), 4, NONE);
        indices("alike, other", land -> x.alike(land == 3 ? 2 : 3, land, 0, false), 4, NONE);
        indices("deed", land -> x.deed(0, land, 0), 4, NONE);
        indices("ends", land -> x.ends(land, 0, 1), 4, NONE);
        indices("hire", land -> x.hire(land, 0, 0, 1), 4, NONE);
        indices("parts", land -> x.parts(land, 1, 0), 4, NONE);
        indices("months", land -> x.months(land, 1, 1), 4, NONE);
        LongYears none = new LongYears();
        Check.due("length of a new object", none.length(0, 1), NONE);
        Check.due("alike of a new object", none.alike(0, 1, 0, true), NONE);
    }

    private static void noSuchFeast() {
        Check.sentence("promises 11 to 13: NONE (rule: Long.MIN_VALUE): no such FEAST");
        LongYears x = full();
        indices("feast", feast -> x.feast(feast, 0), 4, NONE);
        indices("festive", feast -> x.festive(feast, 0), 4, NONE);
        indices("rule", feast -> x.rule(feast, 0), 4, ERROR);
    }

    private static void noSuchPerson() {
        Check.sentence("promises 14 to 16: NONE: no such PERSON");
        LongYears x = full();
        indices("life", person -> x.life(person, 0), 6, NONE);
        indices("age", person -> x.age(person, 0, 0), 6, NONE);
        indices("elder, one", person -> x.elder(person, 0), 6, NONE);
        indices("elder, other", person -> x.elder(0, person), 6, NONE);
    }

    private static void noSuchDeed() {
        Check.sentence("promise 22: NONE: no such DEED");
        LongYears x = full();
        indices("deed", deed -> x.deed(deed, 0, 0), 4, NONE);
        indices("deed", deed -> x.deed(deed, 0, 1), 4, NONE);
        indices("deed", deed -> x.deed(deed, 0, 2), 4, NONE);
    }

    /** COUNTS from 0 to the last one are there, others are not. */
    private static void counts(String call, LongUnaryOperator asked, long last, long none) {
        Check.due(call + " of 0", asked.applyAsLong(0) != none, true);
        Check.due(call + " of " + last, asked.applyAsLong(last) != none, true);
        for (long count : new long[] {-1, -2, last + 1, last + 2, 2 * LAST, -LAST, MIN, Long.MIN_VALUE, Long.MAX_VALUE,
            Long.MAX_VALUE - 1, Long.MIN_VALUE + 1}) {
            Check.due(call + " of " + count, asked.applyAsLong(count), none);
        }
    }

    private static void noSuchCount() {
        Check.sentence("COUNTS are whole numbers 0 .. 10 to the 12");
        LongYears x = full();
        counts("date, YEAR", count -> x.date(0, count, 0), LAST, NONE);
        counts("date, DAY", count -> x.date(0, count, 1), LAST, NONE);
        counts("round, WEEK", count -> x.round(count, 0), LAST, NONE);
        counts("round, MOON", count -> x.round(count, 1), LAST, NONE);
        counts("round, SEASON", count -> x.round(count, 2), LAST, NONE);
        counts("feast", count -> x.feast(0, count), LAST, NONE);
        counts("festive", count -> x.festive(0, count), LAST, NONE);
        counts("rule", count -> x.rule(0, count), LAST, ERROR);
        counts("age", count -> x.age(0, count, 0), LAST, NONE);
        counts("next", count -> x.next(count, NONE, NONE, NONE), LAST, NONE);
        counts("alike", count -> x.alike(0, 1, count, true), LAST, NONE);
        counts("ends (count and m)", count -> x.ends(0, count, 1), LAST - 1, NONE);
        counts("ends (count and m)", count -> x.ends(0, count, 99999), LAST - 99999, NONE);
        counts("hire (a and n and m)", count -> x.hire(0, count, 0, 1), LAST - 1, NONE);
        counts("hire (a and n and m)", count -> x.hire(0, count, 999, 99999), LAST - 999 - 99999, NONE);
    }

    private static void whats(String call, IntToLongFunction asked, int last) {
        indices(call + " what", asked, last + 1, NONE);
    }

    private static void noSuchWhat() {
        Check.sentence("promises 8, 10, 14, 22, 25: NONE: no such what");
        LongYears x = Check.told("land l 9 0;person p 1 1 died 1 1;deed d 1 1 years 1 pay 1;");
        whats("date", what -> x.date(0, 0, what), 1);
        whats("round", what -> x.round(0, what), 2);
        whats("life", what -> x.life(0, what), 1);
        whats("deed", what -> x.deed(0, 0, what), 2);
        whats("parts", what -> x.parts(0, 1, what), 1);
    }

    private static void years(String call, IntToLongFunction asked, int last) {
        Check.due(call + " of 1", asked.applyAsLong(1) != NONE, true);
        Check.due(call + " of " + last, asked.applyAsLong(last) != NONE, true);
        for (int year : new int[] {0, -1, last + 1, last + 2, 1500000000, MIN, MIN + 1, MAX, MAX - 1}) {
            Check.due(call + " of " + year, asked.applyAsLong(year), NONE);
        }
    }

    private static void noSuchYear() {
        Check.sentence("All YEARS asked by call are 1 .. 1000000000 (one beyond: no such YEAR)");
        LongYears x = Check.told("land a 9 0;land b 5 -2;");
        for (int land = 0; land < 2; land++) {
            int of = land;
            int last = land == 0 ? LAST_YEAR : 3;
            years("length", year -> x.length(of, year), last);
            years("count", year -> x.count(of, year, 1), last);
            years("springs", year -> x.springs(of, year), last);
            years("many", year -> x.many(of, year, 1), last);
            years("parts", year -> x.parts(of, year, 0), last);
            years("months", year -> x.months(of, year, 1), last);
        }
        Check.due("often a 1 b 1000000000", x.often(0, 1, LAST_YEAR, 1), LAST_YEAR);
        Check.due("often a 0", x.often(0, 0, 1, 1), NONE);
        Check.due("often a -1", x.often(0, -1, 1, 1), NONE);
        Check.due("often a MIN", x.often(0, MIN, 1, 1), NONE);
        Check.due("often b 1000000001", x.often(0, 1, LAST_YEAR + 1, 1), NONE);
        Check.due("often b MAX", x.often(0, 1, MAX, 1), NONE);
        Check.due("often a b 1000000001", x.often(0, LAST_YEAR + 1, LAST_YEAR + 1, 1), NONE);
        Check.due("often a b 1000000000", x.often(0, LAST_YEAR, LAST_YEAR, 1), 1);
    }

    // ---- lands

    private static void length() {
        Check.sentence("YEAR y (1 and on) of a LAND has LENGTH and (y less 1) times the growth DAYS");
        LongYears x = Check.told("land a 1 99;land b 9999 99;land c 9999 0;land d 1 0;");
        Check.due("year 1", x.length(0, 1), 1);
        Check.due("year 2", x.length(0, 2), 100);
        Check.due("the last that can be asked", x.length(0, LAST_YEAR), 1 + 99L * 999999999);
        Check.due("the longest of all", x.length(1, LAST_YEAR), 9999 + 99L * 999999999);
        Check.due("alike", x.length(2, LAST_YEAR), 9999);
        Check.due("the shortest", x.length(3, LAST_YEAR), 1);
    }

    private static void lastYearOfShrinkingLands() {
        Check.sentence("as long as that is 1 at least; if not, there is no such YEAR any more");
        int[][] lands = {{9999, -99, 101}, {9999, -1, 9999}, {1, -1, 1}, {1, -99, 1}, {99, -99, 1}, {100, -99, 2}, {5, -2, 3},
            {6, -2, 3}, {7, -3, 3}, {9999, -2, 5000}, {9998, -2, 4999}};
        for (int[] land : lands) {
            LongYears x = Check.told("land a " + land[0] + " " + land[1] + " from 7;");
            int last = land[2];
            long shortest = land[0] + (last - 1L) * land[1];
            String of = " of <land a " + land[0] + " " + land[1] + ">";
            Check.due("length of the last" + of, x.length(0, last), shortest);
            Check.due("length of one more" + of, x.length(0, last + 1), NONE);
            long end = 7 + (land[0] + shortest) * last / 2 - 1;
            Check.due("count of its last DAY" + of, x.count(0, last, shortest), end);
            Check.due("count of one DAY more" + of, x.count(0, last, shortest + 1), NONE);
            Check.due("YEAR of its last DAY" + of, x.date(0, end, 0), last);
            Check.due("DAY of its last DAY" + of, x.date(0, end, 1), shortest);
            Check.due("YEAR behind it" + of, x.date(0, end + 1, 0), NONE);
            Check.due("DAY behind it" + of, x.date(0, end + 1, 1), NONE);
            Check.due("YEAR of the last COUNT" + of, x.date(0, LAST, 0), NONE);
            Check.due("ends on it" + of, x.ends(0, end - 1, 1), 1);
            Check.due("ends behind it" + of, x.ends(0, end, 99999), 0);
            Check.due("parts of one more" + of, x.parts(0, last + 1, 0), NONE);
            Check.due("springs of one more" + of, x.springs(0, last + 1), NONE);
            Check.due("many of one more" + of, x.many(0, last + 1, 0), NONE);
            Check.due("months of one more" + of, x.months(0, last + 1, 1), NONE);
            Check.due("often, DAY 1" + of, x.often(0, 1, LAST_YEAR, 1), last);
            Check.due("often, behind it" + of, x.often(0, last + 1, LAST_YEAR, 1), 0);
        }
    }

    private static void date() {
        Check.sentence("DATE: none ahead of its first year");
        LongYears x = Check.told("land a 2 1 from 99999;land b 3 0 from 1;land c 3 -1 from 5;land d 2 0;");
        Check.due("ahead", x.date(0, 99998, 0), NONE);
        Check.due("ahead", x.date(0, 99998, 1), NONE);
        Check.due("the first", x.date(0, 99999, 0), 1);
        Check.due("the first", x.date(0, 99999, 1), 1);
        Check.due("ahead", x.date(1, 0, 0), NONE);
        Check.due("the first", x.date(1, 1, 0), 1);
        Check.due("from 0", x.date(3, 0, 0), 1);
        Check.due("from 0", x.date(3, 0, 1), 1);
        Check.sentence("DATE: or behind its last one");
        Check.due("ahead", x.date(2, 4, 0), NONE);
        long[][] due = {{1, 1}, {1, 2}, {1, 3}, {2, 1}, {2, 2}, {3, 1}, {NONE, NONE}};
        for (int i = 0; i < due.length; i++) {
            Check.due("YEAR of " + (5 + i), x.date(2, 5 + i, 0), due[i][0]);
            Check.due("DAY of " + (5 + i), x.date(2, 5 + i, 1), due[i][1]);
        }
        Check.sentence("DAYS, numbered from 1 on: the last DAY and the first of the next YEAR");
        Check.due("YEAR", x.date(0, 100000, 0) * 10 + x.date(0, 100000, 1), 12);
        Check.due("YEAR", x.date(0, 100001, 0) * 10 + x.date(0, 100001, 1), 21);
        Check.due("YEAR", x.date(0, 100003, 0) * 10 + x.date(0, 100003, 1), 23);
        Check.due("YEAR", x.date(0, 100004, 0) * 10 + x.date(0, 100004, 1), 31);
    }

    private static void farDates() {
        Check.sentence("DATE of COUNT 10 to the 12, by the least and the greatest LANDS");
        LongYears x = Check.told("land a 1 0;land b 9999 0;land c 1 1;land d 9999 99 from 99999;");
        Check.due("a YEAR each day", x.date(0, LAST, 0), LAST + 1);
        Check.due("a YEAR each day", x.date(0, LAST, 1), 1);
        Check.due("beyond YEAR 1000000000", x.date(0, LAST_YEAR, 0), LAST_YEAR + 1L);
        Check.due("YEARS of 9999", x.date(1, LAST, 0), LAST / 9999 + 1);
        Check.due("YEARS of 9999", x.date(1, LAST, 1), LAST % 9999 + 1);
        Check.due("1, 2, 3, ..", x.date(2, LAST, 0), 1414214);
        Check.due("1, 2, 3, ..", x.date(2, LAST, 1), LAST - 1414213L * 1414214 / 2 + 1);
        long year = x.date(3, LAST, 0);
        long begin = 99999 + (year - 1) * 9999 + 99 * ((year - 1) * (year - 2) / 2);
        Check.due("9999, 10098, ..: not ahead of it", begin <= LAST, true);
        Check.due("9999, 10098, ..: the next behind it", begin + 9999 + 99 * (year - 1) > LAST, true);
        Check.due("its DAY", x.date(3, LAST, 1), LAST - begin + 1);
        x = Check.told("land a 1 0 from 1;land b 365 0;");
        Check.due("YEAR 10 to the 12", x.date(0, LAST, 0), LAST);
        Check.due("beyond an int", x.date(1, LAST, 0), LAST / 365 + 1);
    }

    private static void count() {
        Check.sentence("promise 9: NONE: there is none such (DAY)");
        LongYears x = Check.told("land a 3 1;land b 1 1;land c 9999 99;land d 1000 0 from 1000;");
        for (long day : new long[] {0, -1, 4, Long.MIN_VALUE, Long.MAX_VALUE, 1L << 32 | 1, -(1L << 32) + 1}) {
            Check.due("day " + day, x.count(0, 1, day), NONE);
        }
        Check.due("the first day", x.count(0, 1, 1), 0);
        Check.due("the last day", x.count(0, 1, 3), 2);
        Check.due("the last day of YEAR 2", x.count(0, 2, 4), 6);
        Check.due("one more", x.count(0, 2, 5), NONE);
        Check.sentence("promise 9: or it is beyond 10 to the 12");
        Check.due("just on it", x.count(1, 1414214, 88210), LAST);
        Check.due("just behind it", x.count(1, 1414214, 88211), NONE);
        Check.due("the next YEAR", x.count(1, 1414215, 1), NONE);
        Check.due("far behind it", x.count(2, LAST_YEAR, 1), NONE);
        Check.due("far behind it", x.count(2, LAST_YEAR, 9999 + 99L * 999999999), NONE);
        Check.due("YEAR 1000000000 on it", x.count(3, LAST_YEAR, 1), LAST);
        Check.due("YEAR 1000000000 behind it", x.count(3, LAST_YEAR, 2), NONE);
        Check.due("YEAR 999999999 ahead of it", x.count(3, LAST_YEAR - 1, 1000), LAST - 1);
        // years whose first days would wrap round in a long
        for (int year = 200000000; year <= LAST_YEAR && year > 0; year += 40000000) {
            Check.due("YEAR " + year, x.count(2, year, 1), NONE);
        }
        for (int year = 1414210; year < 1600000; year += 997) {
            Check.due("YEAR " + year, x.count(1, year, 1), x.date(1, LAST, 0) >= year ? (year - 1L) * year / 2 : NONE);
        }
    }

    // ---- the sky

    private static void week() {
        Check.sentence("WEEK day of a COUNT: it and the first one modulo the week");
        LongYears x = Check.told("week 2 1;");
        Check.due("of 0", x.round(0, 0), 1);
        Check.due("of 1", x.round(1, 0), 0);
        Check.due("of the last", x.round(LAST, 0), 1);
        x = Check.told("week 30 29;");
        Check.due("of 0", x.round(0, 0), 29);
        Check.due("of 1", x.round(1, 0), 0);
        Check.due("of 30", x.round(30, 0), 29);
        Check.due("of the last", x.round(LAST, 0), (LAST + 29) % 30);
    }

    private static void moonAndSeason() {
        Check.sentence("MOON (0 .. 7): COUNT times Q and O, modulo P, times 8, by P, cut");
        LongYears x = Check.told("moon 8 1 7;sun 8 1;");
        Check.due("of 0", x.round(0, 1), 7);
        for (int count = 1; count <= 8; count++) {
            Check.due("of " + count, x.round(count, 1), count - 1);
        }
        x = Check.told("moon 9999 99 9998;sun 9999 99;");
        Check.due("the greatest over", x.round(0, 1), 7);
        Check.due("and anew", x.round(1, 1), 0);
        Check.due("of the last", x.round(LAST, 1), (LAST * 99 + 9998) % 9999 * 8 / 9999);
        x = Check.told("moon 17 2 0;");
        int[] due = {0, 0, 1, 2, 3, 4, 5, 6, 7, 0, 1, 2, 3, 4, 5, 6, 7, 0};
        for (int count = 0; count < due.length; count++) {
            Check.due("of " + count, x.round(count, 1), due[count]);
        }
        Check.sentence("SEASON (0 .. 3): COUNT times Q, modulo P, times 4, by P, cut (by the sun)");
        x = Check.told("sun 8 1;moon 59 2 58;");
        for (int count = 0; count <= 8; count++) {
            Check.due("of " + count, x.round(count, 2), count % 8 / 2);
        }
        x = Check.told("sun 17 2;");
        int[] seasons = {0, 0, 0, 1, 1, 2, 2, 3, 3, 0, 0, 1, 1, 2, 2, 3, 3, 0};
        for (int count = 0; count < seasons.length; count++) {
            Check.due("of " + count, x.round(count, 2), seasons[count]);
        }
        x = Check.told("sun 9999 99;");
        Check.due("of the last", x.round(LAST, 2), LAST * 99 % 9999 * 4 / 9999);
    }

    // ---- feasts

    private static void feasts() {
        Check.sentence("FEAST: a COUNT on which its E isn't 0, without an ERROR");
        LongYears x = Check.told("land a 9 0;feast a day - 3;feast b 1 / (day - 3);feast c 0 - 1;feast d 0;");
        Check.due("above 0", x.feast(0, 8), 1);
        Check.due("0", x.feast(0, 2), 0);
        Check.due("below 0", x.feast(0, 0), 1);
        Check.due("an ERROR", x.feast(1, 2), 0);
        Check.due("none", x.feast(1, 3), 1);
        Check.due("below 0", x.feast(2, 0), 1);
        Check.due("0", x.feast(3, LAST), 0);
        Check.sentence("NAMES: day, year: the DATE by LAND 0 (0 without); length: of that YEAR (0)");
        x = Check.told("feast a day;feast b year;feast c length;land a 3 -1 from 4;land b 9 0;");
        long[][] due = {{3, 0, 0, 0}, {4, 1, 1, 3}, {6, 3, 1, 3}, {7, 1, 2, 2}, {9, 1, 3, 1}, {10, 0, 0, 0}, {LAST, 0, 0, 0}};
        for (long[] row : due) {
            for (int feast = 0; feast < 3; feast++) {
                Check.due("rule(" + feast + ", " + row[0] + ")", x.rule(feast, row[0]), row[feast + 1]);
            }
        }
        x = Check.told("feast a day;feast b year;feast c length;feast d day + year + length + 1;");
        for (int feast = 0; feast < 4; feast++) {
            Check.due("without a LAND", x.rule(feast, 5), feast == 3 ? 1 : 0);
        }
        x = Check.told("land a 1 1;feast a day;feast b length;feast c year;");
        Check.due("day of the last COUNT", x.rule(0, LAST), 88210);
        Check.due("length of the last COUNT", x.rule(1, LAST), 1414214);
        Check.due("year of the last COUNT", x.rule(2, LAST), 1414214);
    }

    private static void festive() {
        Check.sentence("promise 12: The first FEAST not ahead of a COUNT, of 20000 gone through; SPENT: none of these");
        LongYears x = Check.told("land a 9999 0 from 20000;feast a day = 1 and year = 1;feast b 0;feast c 1 / 0;"
                + "feast d year = 0;");
        Check.due("on it", x.festive(0, 20000), 20000);
        Check.due("the last of 20000", x.festive(0, 1), 20000);
        Check.due("one behind these", x.festive(0, 0), SPENT);
        Check.due("ahead of it", x.festive(0, 20001), SPENT);
        Check.due("never", x.festive(1, 0), SPENT);
        Check.due("an ERROR always", x.festive(2, 0), SPENT);
        Check.due("the last ahead of the land", x.festive(3, 19999), 19999);
        Check.due("none any more", x.festive(3, 20000), SPENT);
        Check.sentence("promise 12: gone through past the last YEAR and up to the first one (day, year, length 0)");
        x = Check.told("land a 3 -1 from 5;feast a length > 0;feast b day + year + length = 0;feast c length = 1;feast d year;");
        long[][] due = {{0, 5, 0, 10, 5}, {5, 5, 11, 10, 5}, {10, 10, 11, 10, 10}, {11, SPENT, 11, SPENT, SPENT}};
        for (long[] row : due) {
            for (int feast = 0; feast < 4; feast++) {
                Check.due("festive(" + feast + ", " + row[0] + ")", x.festive(feast, row[0]), row[feast + 1]);
            }
        }
        Check.sentence("up to 10 to the 12");
        x = Check.told("land a 9999 0 from 20000;feast a day = 1 and year = 1;");
        Check.due("the last COUNT", x.festive(0, LAST), SPENT);
        x = Check.told("land a 1 1;feast a day = 8821 * 10;feast b day = 8821 * 10 + 1;feast c 1;");
        Check.due("on the last COUNT", x.festive(0, LAST), LAST);
        Check.due("up to the last COUNT", x.festive(0, LAST - 19999), LAST);
        Check.due("too far from it", x.festive(0, LAST - 20000), SPENT);
        Check.due("behind the last COUNT", x.festive(1, LAST - 1), SPENT);
        Check.due("every COUNT", x.festive(2, LAST), LAST);
    }

    private static void value(String rule, long value) {
        LongYears x = Check.told("feast f " + rule + ";");
        Check.due("rule " + rule, x.rule(0, 0), value);
        Check.due("feast " + rule, x.feast(0, 0), value != 0 && value != ERROR ? 1 : 0);
    }

    private static void values() {
        Check.sentence("comparisons, and, or, not are 1 or 0 (what isn't 0 is as 1)");
        String[] signs = {"<", "<=", "=", "<>", ">=", ">"};
        int[][] due = {{1, 1, 0, 1, 0, 0}, {0, 1, 1, 0, 1, 0}, {0, 0, 0, 1, 1, 1}};
        for (int i = 0; i < signs.length; i++) {
            value("4 " + signs[i] + " 5", due[0][i]);
            value("5 " + signs[i] + " 5", due[1][i]);
            value("6 " + signs[i] + " 5", due[2][i]);
            value("0 - 9 " + signs[i] + " 5", due[0][i]);
        }
        value("7 and 9", 1);
        value("7 and 0", 0);
        value("0 and 7", 0);
        value("(0 - 7) and 8", 1);
        value("0 or 0", 0);
        value("0 or 9", 1);
        value("9 or 0", 1);
        value("0 or (0 - 1)", 1);
        value("not 0", 1);
        value("not 7", 0);
        value("not (0 - 7)", 0);
        value("not not 7", 1);
        Check.sentence("/ is cut towards 0, % is what is left by it");
        value("7 / 2", 3);
        value("(0 - 7) / 2", -3);
        value("7 / (0 - 2)", -3);
        value("(0 - 7) / (0 - 2)", 3);
        value("7 % 2", 1);
        value("(0 - 7) % 2", -1);
        value("7 % (0 - 2)", 1);
        value("(0 - 7) % (0 - 2)", -1);
        value("1 / 2", 0);
        value("(0 - 1) / 2", 0);
        value("0 / 5", 0);
        value("0 % 5", 0);
        value("5 % 1", 0);
    }

    private static void errors() {
        Check.sentence("ERROR: / or % by 0");
        value("1 / 0", ERROR);
        value("0 / 0", ERROR);
        value("1 % 0", ERROR);
        value("0 % 0", ERROR);
        value("1 / (2 - 2)", ERROR);
        value("1 % (2 = 3)", ERROR);
        Check.sentence("both sides are worked out");
        value("1 or 1 / 0", ERROR);
        value("0 and 1 / 0", ERROR);
        value("1 / 0 or 1", ERROR);
        value("1 / 0 and 0", ERROR);
        value("not (1 % 0)", ERROR);
        value("0 * (1 / 0)", ERROR);
        value("(1 / 0) = (1 / 0)", ERROR);
        Check.sentence("a value above 10 to the 12 or below 0 by more than that");
        String last = "1000 * 1000 * 1000 * 1000";
        value(last, LAST);
        value(last + " + 0", LAST);
        value(last + " + 1", ERROR);
        value("1 + " + last, ERROR);
        value(last + " - 1", LAST - 1);
        value("0 - " + last, -LAST);
        value("0 - " + last + " - 1", ERROR);
        value("0 - " + last + " + 1", -LAST + 1);
        value("0 - 1 - " + last, ERROR);
        value(last + " * 1", LAST);
        value(last + " * (0 - 1)", -LAST);
        value("(0 - 1) * " + last, -LAST);
        value(last + " * 2", ERROR);
        value(last + " * (0 - 2)", ERROR);
        value(last + " * 0", 0);
        value("0 * (" + last + ")", 0);
        value("1000 * 1000 * 1000 * 1001", ERROR);
        value("5000 * 5000 * 8000 * 5", LAST);
        value("5000 * 5000 * 8000 * 5 + 1 - 1", ERROR);
        value("(" + last + ") * (" + last + ")", ERROR);
        value("(0 - " + last + ") * (" + last + ")", ERROR);
        value("(" + last + " + 1) * 0", ERROR);
        value("not (" + last + " + 1)", ERROR);
        value("(" + last + " + 1) = 0", ERROR);
        value("(" + last + ") / (0 - 1)", -LAST);
        value("(" + last + ") % 7", LAST % 7);
        // products that come out small if they wrap round
        value("(4096 * 4096 * 256) * (4096 * 4096 * 256)", ERROR);
        value("(8192 * 8192 * 64) * (8192 * 8192 * 64)", ERROR);
        value("(4096 * 4096 * 512) * (4096 * 4096 * 256) + 1", ERROR);
        Check.sentence("a value above 10 to the 12: of a NAME");
        LongYears x = Check.told("land a 1 0;feast a year;feast b year - 1;feast c 1;");
        Check.due("YEAR 10 to the 12", x.rule(0, LAST - 1), LAST);
        Check.due("one more", x.rule(0, LAST), ERROR);
        Check.due("one more", x.rule(1, LAST), ERROR);
        Check.due("one more", x.feast(0, LAST), 0);
        Check.due("a rule that doesn't name it", x.rule(2, LAST), 1);
        Check.sentence("promise 13: Long.MIN_VALUE: an ERROR");
        Check.due("rule", Check.told("feast f 1 % 0;").rule(0, LAST), ERROR);
    }

    // ---- people

    private static void life() {
        Check.sentence("promise 14: death (1; NONE)");
        LongYears x = Check.told("land a 9999 99;person p 1 1;person q 1 1 died 1 1;person r 99999 99999 died 99999 99999;");
        Check.due("not dead", x.life(0, 1), NONE);
        Check.due("born on 0", x.life(0, 0), 0);
        Check.due("dead on 0", x.life(1, 1), 0);
        long late = 99998L * 9999 + 99 * (99998L * 99997 / 2) + 99998;
        Check.due("the latest birth", x.life(2, 0), late);
        Check.due("the latest death", x.life(2, 1), late);
        Check.tell(x, "land a 9999 99;person p 1 1;person q 1 1;");
        Check.due("a death of a text ahead", x.life(1, 1), NONE);
    }

    private static void age() {
        Check.sentence("promise 15: NONE: not born yet");
        LongYears x = Check.told("land a 10 0;land b 10 -3;land c 10 0 from 4;land d 1 0;person p 1 4;person q 3 10;person r 1 5 died 1 6;");
        Check.due("the day ahead", x.age(0, 2, 0), NONE);
        Check.due("the day", x.age(0, 3, 0), 0);
        Check.due("the day ahead", x.age(1, 28, 0), NONE);
        Check.sentence("promise 15: NONE: no DATE of the birth by it");
        Check.due("ahead of its first year", x.age(0, 100, 2), NONE);
        Check.due("on its first day", x.age(2, 100, 2), 9);
        Check.due("behind its last year", x.age(1, 100, 1), NONE);
        Check.sentence("AGE: a DAY which is that COUNT or ahead of it");
        Check.due("the day ahead of a birthday", x.age(0, 12, 0), 0);
        Check.due("a birthday", x.age(0, 13, 0), 1);
        Check.due("the day behind it", x.age(0, 14, 0), 1);
        Check.due("YEAR 2 by b: 7 days, 10 .. 16", x.age(0, 12, 1), 0);
        Check.due("day 4 of YEAR 2", x.age(0, 13, 1), 1);
        Check.due("day 3 of YEAR 3 (4 days, 17 .. 20)", x.age(0, 19, 1), 1);
        Check.due("day 4 of YEAR 3, its last", x.age(0, 20, 1), 2);
        Check.due("YEAR 4 has one day", x.age(0, 21, 1), 2);
        Check.due("behind the last YEAR", x.age(0, 22, 1), 2);
        Check.due("at the last COUNT", x.age(0, LAST, 1), 2);
        Check.sentence("AGE: (whether dead or not)");
        Check.due("long dead", x.age(2, 14, 0), 1);
        Check.due("at the last COUNT", x.age(2, LAST, 0), (LAST - 4) / 10);
        Check.due("YEARS of a day", x.age(2, LAST, 3), LAST - 4);
    }

    private static void elder() {
        Check.sentence("promise 16: (the first, if both are born on one COUNT)");
        LongYears x = Check.told("land a 10 0;person p 1 4;person q 1 4;person r 1 3;person s 1 5;");
        Check.due("both alike", x.elder(0, 1), 0);
        Check.due("both alike", x.elder(1, 0), 1);
        Check.due("one and the same", x.elder(1, 1), 1);
        Check.due("a day", x.elder(0, 2), 2);
        Check.due("a day", x.elder(2, 0), 2);
        Check.due("a day", x.elder(0, 3), 0);
        Check.due("a day", x.elder(3, 0), 0);
    }

    private static void often() {
        Check.sentence("promise 17: NONE: no such ones (a above b, number below 1)");
        LongYears x = Check.told("land a 3 2;land b 9 -4;land c 5 0;land d 9999 99;");
        Check.due("a above b", x.often(0, 6, 5, 1), NONE);
        Check.due("a and b alike", x.often(0, 5, 5, 1), 1);
        Check.due("number 0", x.often(0, 5, 5, 0), NONE);
        Check.due("number -1", x.often(0, 5, 5, -1), NONE);
        Check.due("number MIN", x.often(0, 5, 5, Long.MIN_VALUE), NONE);
        Check.sentence("promise 17: In how many of YEARS a .. b there is a DAY of a number");
        for (int number = 1; number <= 12; number++) {
            for (int land = 0; land < 3; land++) {
                for (int a = 1; a <= 6; a++) {
                    int due = 0;
                    for (int b = a; b <= 7; b++) {
                        due += x.length(land, b) >= number ? 1 : 0;
                        Check.due("often(" + land + ", " + a + ", " + b + ", " + number + ")",
                                x.often(land, a, b, number), due);
                    }
                }
            }
        }
        long longest = 9999 + 99L * 999999999;
        Check.due("the last YEAR alone", x.often(3, 1, LAST_YEAR, longest), 1);
        Check.due("the last two YEARS", x.often(3, 1, LAST_YEAR, longest - 99), 2);
        Check.due("the last YEAR alone", x.often(3, 1, LAST_YEAR, longest - 98), 1);
        Check.due("none", x.often(3, 1, LAST_YEAR, longest + 1), 0);
        Check.due("none", x.often(3, 1, LAST_YEAR, Long.MAX_VALUE), 0);
        Check.due("none", x.often(2, 1, LAST_YEAR, Long.MAX_VALUE), 0);
        Check.due("none", x.often(1, 1, LAST_YEAR, Long.MAX_VALUE), 0);
        Check.due("none", x.often(3, 1, LAST_YEAR - 1, longest), 0);
        x = Check.told("land a 3 1;land b 3 -1;");
        for (int number = 1; number <= 6; number++) {
            Check.due("growth 1, DAY " + number, x.often(0, 1, 9, number), Math.min(9, 12 - number));
            Check.due("growth -1, DAY " + number, x.often(1, 1, 9, number), Math.max(0, 4 - number));
        }
    }

    // ---- springs

    private static void springs() {
        Check.sentence("A SPRING begins on the least COUNT at k times P by Q at least, for k 0, 1, ..");
        LongYears x = Check.told("sun 17 2;land a 1 0;land b 1 0 from 1;land c 9999 99;land d 20 -7;");
        for (int count = 0; count <= 60; count++) {
            int due = 0;
            for (int k = 0; k < 9; k++) {
                due += (k * 17 + 1) / 2 == count ? 1 : 0;
            }
            Check.due("springs on COUNT " + count, x.springs(0, count + 1), due);
        }
        Check.due("COUNT 0 is not of a LAND that begins on 1", x.springs(1, 1), 0);
        Check.due("COUNT 9", x.springs(1, 9), 1);
        Check.sentence("promise 18: NONE: there is none such");
        Check.due("YEAR 3, 33 .. 38", x.springs(3, 3), 1);
        Check.due("YEAR 4", x.springs(3, 4), NONE);
        Check.due("YEAR 0", x.springs(3, 0), NONE);
        Check.sentence("promise 18: or it begins behind 10 to the 12");
        long last = x.date(2, LAST, 0);
        Check.due("the YEAR of the last COUNT", x.springs(2, (int) last) > 0, true);
        Check.due("the YEAR behind it", x.springs(2, (int) last + 1), NONE);
        Check.due("far behind it", x.springs(2, LAST_YEAR), NONE);
        x = Check.told("sun 1000 1;land a 1000 0 from 1000;land b 1000 0 from 1001;land c 1 1 from 0;land d 1 1 from 99999;");
        Check.due("begins on 10 to the 12", x.springs(0, LAST_YEAR), 1);
        Check.due("begins behind it", x.springs(1, LAST_YEAR), NONE);
        Check.due("the one ahead", x.springs(1, LAST_YEAR - 1), 1);
        Check.due("YEAR 1414214 begins ahead of it", x.springs(2, 1414214) >= 0, true);
        Check.due("YEAR 1414215 behind", x.springs(2, 1414215), NONE);
    }

    private static void many() {
        Check.sentence("promise 19: (n 0 .. 99); NONE: no such n");
        LongYears x = Check.told("sun 8 1;land a 8 8;land b 8 0;land c 20 -7;land d 1 0;");
        Check.due("n 0", x.many(3, 2, 0), 2);
        Check.due("n 99", x.many(0, 1, 99), 99);
        Check.due("n 98", x.many(0, 1, 98), 98);
        for (int n : new int[] {-1, 100, MIN, MAX}) {
            Check.due("n " + n, x.many(0, 1, n), NONE);
        }
        Check.sentence("promise 19: (1000 gone through ..)");
        x = Check.told("sun 9000 1;land a 8 0;land b 9 0;land c 9000 0;land d 9999 -99;");
        Check.due("COUNT 9000 is in YEAR 1126: the last of 1000", x.many(0, 127, 1), 1126);
        Check.due("it is one behind 1000", x.many(0, 126, 1), SPENT);
        Check.due("the first of them", x.many(0, 1126, 1), 1126);
        Check.due("COUNT 9000 begins YEAR 1001: the last of 1000", x.many(1, 2, 1), 1001);
        Check.due("one on each: none with 0", x.many(2, 1, 0), SPENT);
        Check.sentence("promise 19: (.. as many as there are ..); SPENT: none of these");
        Check.due("all 101", x.many(3, 1, 99), SPENT);
        Check.due("the last of them", x.many(3, 101, 0), 101);
        Check.due("the last of them", x.many(3, 101, 1), SPENT);
        Check.due("NONE: there is no such YEAR", x.many(3, 102, 0), NONE);
        Check.due("up to YEAR 1000000000", x.many(2, LAST_YEAR, 1), SPENT);
        Check.due("up to YEAR 1000000000", x.many(0, LAST_YEAR, 2), SPENT);
        Check.due("NONE: one beyond", x.many(0, LAST_YEAR + 1, 0), NONE);
        Check.sentence("All YEARS gone through are 1 .. 1000000000 (one beyond: no such YEAR): many");
        x = Check.told("sun 9 1;land a 8 0 from 1;");
        Check.due("YEAR 1000000000 has none, the next one would have one", x.many(0, LAST_YEAR, 1), SPENT);
        Check.due("YEAR 1000000000", x.many(0, LAST_YEAR, 0), LAST_YEAR);
        Check.due("up to YEAR 1000000000", x.many(0, LAST_YEAR - 8, 0), LAST_YEAR);
        Check.due("the nine YEARS ahead of it", x.many(0, LAST_YEAR - 9, 0), LAST_YEAR - 9);
        Check.sentence("promise 19: (.. and begin by 10 to the 12)");
        x = Check.told("sun 1000 1;land a 1000 0 from 1000;land b 1000 0 from 1001;land c 1 1;");
        Check.due("the YEAR that begins on it", x.many(0, LAST_YEAR, 1), LAST_YEAR);
        Check.due("the YEAR that begins behind it is not gone through", x.many(1, LAST_YEAR, 1), SPENT);
        Check.due("the one ahead is", x.many(1, LAST_YEAR - 1, 1), LAST_YEAR - 1);
        Check.due("with another n", x.many(1, LAST_YEAR - 1, 0), SPENT);
        int due = (int) x.springs(2, 1414214);
        Check.due("no YEAR of so few springs", x.many(2, 1414214, 99), SPENT);
        Check.due("they have more than 99", due > 99, true);
    }

    // ---- next and alike

    private static void next() {
        Check.sentence("promise 20: a DAY (1 .. 99999)");
        LongYears x = Check.told("land a 9999 99 from 19999;week 30 0;moon 9999 1 0;");
        for (int day : new int[] {0, -2, 100000, MIN, MAX}) {
            Check.due("DAY " + day, x.next(0, day, NONE, NONE), NONE);
        }
        Check.due("DAY 99999", x.next(0, 99999, NONE, NONE), SPENT);
        long begin = x.count(0, 911, 1);
        Check.due("DAY 99999 of a YEAR that has it", x.next(begin + 80000, 99999, NONE, NONE), begin + 99998);
        Check.due("DAY 1", x.next(0, 1, NONE, NONE), 19999);
        Check.sentence("promise 20: a WEEK day (below its days)");
        for (int week : new int[] {30, 31, -2, MIN, MAX}) {
            Check.due("WEEK day " + week, x.next(0, NONE, week, NONE), NONE);
        }
        Check.due("WEEK day 29", x.next(0, NONE, 29, NONE), 29);
        Check.due("WEEK day 0", x.next(1, NONE, 0, NONE), 30);
        Check.due("WEEK day 7 of a new object", new LongYears().next(0, NONE, 7, NONE), NONE);
        Check.due("WEEK day 6 of a new object", new LongYears().next(0, NONE, 6, NONE), 6);
        Check.sentence("promise 20: a MOON");
        for (int moon : new int[] {8, -2, MIN, MAX}) {
            Check.due("MOON " + moon, x.next(0, NONE, NONE, moon), NONE);
        }
        Check.due("MOON 7", x.next(0, NONE, NONE, 7), 8750);
        Check.due("MOON 0", x.next(1250, NONE, NONE, 0), 9999);
        Check.sentence("promise 20: (each NONE: not asked)");
        Check.due("nothing asked", x.next(0, NONE, NONE, NONE), 0);
        Check.due("nothing asked", x.next(LAST, NONE, NONE, NONE), LAST);
        Check.due("all asked", x.next(0, 1, 19999 % 30, 0), 19999);
        Check.due("all asked, another MOON", x.next(0, 1, 19999 % 30, 1), SPENT);
        Check.due("all asked, another WEEK day", x.next(0, 1, 0, 0), SPENT);
        Check.due("all asked: 20000 % 30 is 20, MOON of 20000 is 0", x.next(0, 2, 20, 0), SPENT);
        Check.due("all asked", x.next(1, 2, 20, 0), 20000);
        Check.sentence("NEXT: gone through 20000 COUNTS (from it on, up to 10 to the 12); SPENT, if none of these is so");
        Check.due("the last of 20000", x.next(0, 1, NONE, NONE), 19999);
        Check.due("the first behind them", x.next(0, 2, NONE, NONE), SPENT);
        Check.due("the last of them", x.next(1, 2, NONE, NONE), 20000);
        Check.due("the first of them", x.next(20000, 2, NONE, NONE), 20000);
        Check.due("the last COUNT", x.next(LAST, NONE, (int) (LAST % 30), NONE), LAST);
        Check.due("behind the last COUNT", x.next(LAST - 5, NONE, (int) ((LAST + 1) % 30), NONE), SPENT);
        Check.due("up to the last COUNT", x.next(LAST - 5, NONE, (int) (LAST % 30), NONE), LAST);
        Check.due("no LAND, a DAY", new LongYears().next(0, 1, NONE, NONE), SPENT);
        x = Check.told("land a 3 -1 from 2;");
        Check.due("behind the last YEAR", x.next(8, 1, NONE, NONE), SPENT);
        Check.due("its last DAY 1", x.next(6, 1, NONE, NONE), 7);
    }

    private static void alike() {
        Check.sentence("promise 21: NONE: both the same");
        LongYears x = Check.told("land a 5 0;land b 5 0 from 20000;land c 5 0 from 20001;land d 2 -1 from 30000;");
        Check.due("both the same", x.alike(0, 0, 0, false), NONE);
        Check.due("both the same", x.alike(3, 3, 30000, true), NONE);
        Check.sentence("ALIKE: likewise (20000 COUNTS, SPENT)");
        Check.due("the last of 20000", x.alike(0, 1, 1, false), 20000);
        Check.due("one behind them", x.alike(0, 1, 0, false), SPENT);
        Check.due("the other way round", x.alike(1, 0, 1, false), 20000);
        Check.due("the other way round", x.alike(1, 0, 0, false), SPENT);
        Check.due("never", x.alike(0, 2, 20001, false), SPENT);
        Check.due("at the last COUNT", x.alike(0, 1, LAST, false), LAST);
        Check.due("never at the last COUNT", x.alike(1, 2, LAST, false), SPENT);
        x = Check.told("land a 1 0;land b 4 0 from 2;land c 1 0 from 1;land d 1 0;");
        Check.due("the last of 20000 and of all COUNTS", x.alike(0, 1, LAST - 1, false), SPENT);
        Check.due("the last COUNT", x.alike(0, 2, LAST, false), LAST);
        Check.sentence("ALIKE: on which two LANDS have the same DAY: both have one");
        x = Check.told("land a 2 -1 from 5;land b 3 -2 from 20;land c 1 0 from 22;land d 2 0 from 6;");
        Check.due("none ahead of both", x.alike(0, 1, 0, false), SPENT);
        Check.due("none behind both", x.alike(0, 1, 30, false), SPENT);
        Check.due("none behind one", x.alike(0, 2, 0, false), SPENT);
        Check.due("one on its last DAY", x.alike(1, 2, 0, false), 23);
        Check.due("the one's DAY 1, the other's DAY 1", x.alike(0, 3, 0, false), SPENT);
        Check.sentence("ALIKE: (and the same YEAR)");
        x = Check.told("land a 4 0;land b 3 1;land c 4 0 from 4;");
        Check.due("the same DATE on 0", x.alike(0, 1, 0, true), 0);
        Check.due("YEAR 1 DAY 3", x.alike(0, 1, 2, true), 2);
        Check.due("another YEAR", x.alike(0, 2, 0, true), SPENT);
        Check.due("another YEAR is fine", x.alike(0, 2, 0, false), 4);
    }

    // ---- deeds

    private static void deedYears() {
        Check.sentence("DUE: the DAY of its number so many YEARS later");
        LongYears x = Check.told("land a 5 -2 from 3;land b 4 1;deed p 1 1 years 0 pay 9;deed q 1 1 years 2 pay 9;"
                + "deed r 2 3 years 1 pay 9;deed s 1 3 years 1 pay 9;");
        Check.due("none later", x.deed(0, 0, 1), 3);
        Check.due("none later", x.deed(0, 0, 2), 0);
        Check.due("the last YEAR's only DAY", x.deed(1, 0, 1), 11);
        Check.due("the last DAY of a YEAR", x.deed(3, 0, 1), 10);
        Check.sentence("DUE: (the first DAY of the next YEAR, if that one has none such ..)");
        Check.due("YEAR 3 has no DAY 3, there is no YEAR 4", x.deed(2, 0, 1), NONE);
        Check.due("no pay then", x.deed(2, 0, 2), NONE);
        Check.due("its COUNT", x.deed(2, 0, 0), 10);
        x = Check.told("land a 5 -2 from 3;deed p 1 4 years 1 pay 9;deed q 1 3 years 1 pay 9;deed r 1 5 years 0 pay 9;");
        Check.due("YEAR 2 has no DAY 4", x.deed(0, 0, 1), 11);
        Check.due("YEARS that end on 7 and 10 and 11", x.deed(0, 0, 2), 27);
        Check.due("YEAR 2 has a DAY 3", x.deed(1, 0, 1), 10);
        Check.due("its last DAY ends it", x.deed(1, 0, 2), 18);
        Check.due("at once", x.deed(2, 0, 1), 7);
        Check.sentence("DUE: (.. none, if there is no such YEAR)");
        x = Check.told("land a 5 -2 from 3;land b 9 0;deed p 1 1 years 3 pay 9;deed q 3 1 years 0 pay 9;deed r 3 1 years 1 pay 9;"
                + "deed s 1 1 years 999 pay 9;");
        Check.due("no YEAR 4", x.deed(0, 0, 1), NONE);
        Check.due("no YEAR 4", x.deed(0, 0, 2), NONE);
        Check.due("its COUNT all the same", x.deed(0, 0, 0), 3);
        Check.due("the last YEAR", x.deed(1, 0, 1), 11);
        Check.due("no YEAR behind it", x.deed(2, 0, 1), NONE);
        Check.due("no YEAR 1000", x.deed(3, 0, 1), NONE);
        Check.due("by b there is", x.deed(3, 1, 1), 3 + 999 * 9);
        Check.due("by b there is", x.deed(3, 1, 2), 999 * 9);
        Check.sentence("promise 22: the greatest: years 999, pay 999, YEAR 99999");
        x = Check.told("land a 9999 99 from 99999;land b 1 0;deed p 99999 99999 years 999 pay 999;deed q 1 1 years 999 pay 999;");
        long at = 99999 + 99998L * 9999 + 99 * (99998L * 99997 / 2) + 99998;
        Check.due("its COUNT", x.deed(0, 0, 0), at);
        Check.due("DUE", x.deed(0, 0, 1), x.count(0, 99999 + 999, 99999));
        Check.due("PAY", x.deed(0, 0, 2), 999 * 999);
        Check.due("by b", x.deed(0, 1, 1), at + 999);
        Check.due("by b", x.deed(0, 1, 2), 999 * 999);
    }

    private static void deedDays() {
        Check.sentence("DUE: so many days later");
        LongYears x = Check.told("land a 5 0;land b 1 0;deed p 1 1 days 0 pay 9;deed q 1 1 days 99999 pay 999;deed r 1 5 days 5 pay 9;"
                + "deed s 1 5 days 4 pay 9;");
        Check.due("none later", x.deed(0, 0, 1), 0);
        Check.due("none later", x.deed(0, 0, 2), 0);
        Check.due("the most", x.deed(1, 0, 1), 99999);
        Check.due("the most, PAY", x.deed(1, 0, 2), 20000 * 999);
        Check.due("the most, PAY by b", x.deed(1, 1, 2), 99999 * 999);
        Check.due("the last DAY of YEAR 2", x.deed(2, 0, 1), 9);
        Check.due("the YEAR of the deed ends on it: not behind it", x.deed(2, 0, 2), 9);
        Check.due("a day less", x.deed(3, 0, 2), 0);
    }

    private static void deedTill() {
        Check.sentence("DUE: till: the first FEAST behind it (of 20000 COUNTS)");
        String ahead = "land a 9999 0;feast f ";
        String behind = ";deed p 1 1 till f pay 7;";
        Check.due("not the day itself", Check.told(ahead + "day = 1" + behind).deed(0, 0, 1), 9999);
        Check.due("the day behind it", Check.told(ahead + "1" + behind).deed(0, 0, 1), 1);
        Check.due("the last of 20000: COUNT 20000", Check.told(ahead + "year = 3 and day = 3" + behind).deed(0, 0, 1), 20000);
        Check.due("its PAY", Check.told(ahead + "year = 3 and day = 3" + behind).deed(0, 0, 2), 14);
        Check.sentence("promise 22: SPENT: no FEAST");
        for (int what = 1; what <= 2; what++) {
            Check.due("one behind 20000", Check.told(ahead + "year = 3 and day = 4" + behind).deed(0, 0, what), SPENT);
            Check.due("never", Check.told(ahead + "0" + behind).deed(0, 0, what), SPENT);
            Check.due("an ERROR", Check.told(ahead + "1 / 0" + behind).deed(0, 0, what), SPENT);
            Check.due("the day itself alone", Check.told(ahead + "year * day = 1" + behind).deed(0, 0, what), SPENT);
        }
        Check.due("its COUNT", Check.told(ahead + "0" + behind).deed(0, 0, 0), 0);
    }

    private static void deedNone() {
        Check.sentence("promise 22: NONE: no DATE of it by that LAND");
        String[] terms = {"years 0", "days 0", "till f", "till g"};
        for (String term : terms) {
            LongYears x = Check.told("land a 9 0;land b 5 0 from 1;land c 1 -1;land d 5 0;feast f 1;feast g 0;deed p 1 1 " + term
                    + " pay 1;deed q 1 2 " + term + " pay 1;");
            for (int what = 0; what <= 2; what++) {
                Check.due("ahead of its first YEAR, " + term + ", " + what, x.deed(0, 1, what), NONE);
                Check.due("behind its last YEAR, " + term + ", " + what, x.deed(1, 2, what), NONE);
                Check.due("on its first DAY, " + term + ", " + what, x.deed(1, 1, what) != NONE, true);
                Check.due("on its last DAY, " + term + ", " + what, x.deed(0, 2, what) != NONE, true);
            }
        }
    }

    private static void pay() {
        Check.sentence("PAY: so much for each YEAR that ends behind the deed's COUNT and not behind DUE (its last DAY)");
        LongYears x = Check.told("land a 3 0;land b 3 -1;deed p 1 3 days 2 pay 7;deed q 1 3 days 3 pay 7;deed r 1 2 days 1 pay 7;"
                + "deed s 1 2 days 0 pay 7;");
        Check.due("ends on 2 (the COUNT) and 5: none", x.deed(0, 0, 2), 0);
        Check.due("5 is DUE", x.deed(1, 0, 2), 7);
        Check.due("2 is DUE", x.deed(2, 0, 2), 7);
        Check.due("at once", x.deed(3, 0, 2), 0);
        Check.due("by b: 4", x.deed(0, 1, 2), 7);
        Check.due("by b: 4, 5", x.deed(1, 1, 2), 14);
        x = Check.told("land a 3 0;land b 3 -1;deed p 1 1 days 99999 pay 0;deed q 1 1 days 99999 pay 999;");
        Check.due("pay 0", x.deed(0, 0, 2), 0);
        Check.due("pay 999", x.deed(1, 0, 2), 33333 * 999);
        Check.due("all YEARS that there are", x.deed(1, 1, 2), 3 * 999);
    }

    // ---- ends and hire

    private static void ends() {
        Check.sentence("promise 23: in m days (1 .. 99999)");
        LongYears x = Check.told("land a 1 0;land b 4 0;land c 3 -1 from 10;");
        Check.due("m 1", x.ends(0, 0, 1), 1);
        Check.due("m 99999", x.ends(0, 0, 99999), 99999);
        for (int m : new int[] {0, -1, 100000, MIN, MAX}) {
            Check.due("m " + m, x.ends(0, 0, m), NONE);
        }
        Check.sentence("promise 23: behind a COUNT (their last DAYS)");
        Check.due("the end is the COUNT", x.ends(1, 3, 3), 0);
        Check.due("the end is behind it", x.ends(1, 2, 1), 1);
        Check.due("the end is the last of m", x.ends(1, 3, 4), 1);
        Check.due("ahead of the first YEAR", x.ends(2, 0, 11), 0);
        Check.due("its first end", x.ends(2, 0, 12), 1);
        Check.due("all ends", x.ends(2, 0, 99999), 3);
        Check.due("the last end", x.ends(2, 14, 1), 1);
        Check.due("behind the last end", x.ends(2, 15, 1), 0);
        Check.sentence("promise 23: NONE: beyond 10 to the 12");
        Check.due("up to it", x.ends(0, LAST - 99999, 99999), 99999);
        Check.due("one beyond", x.ends(0, LAST - 99998, 99999), NONE);
        Check.due("up to it", x.ends(0, LAST - 1, 1), 1);
        Check.due("one beyond", x.ends(0, LAST, 1), NONE);
        Check.due("COUNT and m wrap round", x.ends(0, Long.MAX_VALUE, 99999), NONE);
    }

    private static void hire() {
        Check.sentence("promise 24: n 0 .. 999");
        LongYears x = Check.told("land a 1000 0;land b 10 5;land c 3 -1 from 10;land d 1 0;");
        Check.due("n 0", x.hire(0, 5, 0, 1), 5);
        Check.due("n 999: the last of them", x.hire(0, 999, 999, 1), 1998);
        Check.due("n 998: not yet", x.hire(0, 1000, 997, 1), 1000);
        for (int n : new int[] {-1, 1000, MIN, MAX}) {
            Check.due("n " + n, x.hire(0, 5, n, 1), NONE);
        }
        Check.sentence("promise 24: m 1 .. 99999");
        Check.due("m 1", x.hire(3, 5, 9, 1), 5);
        Check.due("m 99999", x.hire(3, 5, 9, 99999), 5);
        for (int m : new int[] {0, -1, 100000, MIN, MAX}) {
            Check.due("m " + m, x.hire(0, 5, 1, m), NONE);
        }
        Check.sentence("HIRE: of several the first");
        Check.due("ends on 9, 24, 44: two of them first from 8 on", x.hire(1, 0, 999, 16), 8);
        Check.due("none ends", x.hire(1, 10, 3, 5), 10);
        Check.due("all YEARS are over", x.hire(2, 16, 999, 99), 16);
        Check.due("no YEAR yet", x.hire(2, 0, 3, 5), 0);
        Check.due("12, 14, 15: all three first from 10 on", x.hire(2, 0, 50, 5), 10);
        Check.sentence("promise 24: NONE: a and n and m beyond 10 to the 12");
        Check.due("up to it", x.hire(3, LAST - 2, 1, 1), LAST - 2);
        Check.due("one beyond by n", x.hire(3, LAST - 2, 2, 1), NONE);
        Check.due("one beyond by m", x.hire(3, LAST - 2, 1, 2), NONE);
        Check.due("one beyond by a", x.hire(3, LAST - 1, 1, 1), NONE);
        Check.due("they wrap round", x.hire(3, Long.MAX_VALUE, 1, 1), NONE);
    }

    // ---- months

    private static void parts() {
        Check.sentence("promise 25: how many numbers there are (1 .. 99)");
        LongYears x = Check.told("land a 1 0;land b 9900 0;land c 97 1;land d 5040 0;");
        Check.due("of 1", x.parts(0, 1, 0), 1);
        int due = 0;
        for (int by = 1; by <= 99; by++) {
            due += 9900 % by == 0 ? 1 : 0;
        }
        Check.due("of 9900, 99 too, 100 not", x.parts(1, 1, 0), due);
        Check.due("of 97", x.parts(2, 1, 0), 2);
        Check.due("of 101", x.parts(2, 5, 0), 1);
        Check.sentence("promise 25: the greatest of them that is at most 99");
        Check.due("of 1", x.parts(0, LAST_YEAR, 1), 1);
        Check.due("of 9900", x.parts(1, 1, 1), 99);
        Check.due("of 97", x.parts(2, 1, 1), 97);
        Check.due("of 98", x.parts(2, 2, 1), 98);
        Check.due("of 99", x.parts(2, 3, 1), 99);
        Check.due("of 100", x.parts(2, 4, 1), 50);
        Check.due("of 101", x.parts(2, 5, 1), 1);
        Check.due("of 5040", x.parts(3, 1, 1), 90);
        x = Check.told("land a 9999 99;");
        Check.due("of the longest YEAR", x.parts(0, LAST_YEAR, 1), 99);
    }

    private static void months() {
        Check.sentence("promise 26: n (1 .. 99); NONE: no such ones");
        LongYears x = Check.told("land a 1000 1;land b 99 0;land c 50 -1;land d 9999 99;");
        Check.due("n 1", x.months(0, 7, 1), 7);
        Check.due("n 99", x.months(1, 7, 99), 7);
        for (int n : new int[] {0, -1, 100, MIN, MAX}) {
            Check.due("n " + n, x.months(0, 7, n), NONE);
        }
        Check.sentence("promise 26: SPENT (1000 gone through, ..)");
        Check.due("never", x.months(1, 1, 98), SPENT);
        x = Check.told("land a 99 99;land b 1 11;land c 50 -1;land d 9999 99;");
        Check.due("99, 198, ..: the 97th", x.months(0, 1, 97), 97);
        Check.due("anew", x.months(0, 98, 97), 194);
        Check.sentence("promise 26: (.. as many as there are)");
        Check.due("the last YEAR has one DAY", x.months(2, 50, 1), 50);
        Check.due("by 2: YEAR 49", x.months(2, 48, 2), 49);
        Check.due("none any more", x.months(2, 50, 2), SPENT);
        Check.due("no such YEAR", x.months(2, 51, 1), NONE);
        Check.due("up to YEAR 1000000000", x.months(3, LAST_YEAR, 98), (9999 + 99L * 999999999) % 98 == 0 ? LAST_YEAR : SPENT);
        for (int n = 2; n <= 99; n++) {
            long due = SPENT;
            for (int year = LAST_YEAR; year > LAST_YEAR - 60; year--) {
                due = (9999 + 99L * (year - 1)) % n == 0 ? year : due;
            }
            Check.due("YEARS up to the last, by " + n, x.months(3, LAST_YEAR - 59, n), due);
        }
        Check.due("no 10 to the 12 here", x.months(3, LAST_YEAR, 99), LAST_YEAR);
        Check.sentence("All YEARS gone through are 1 .. 1000000000 (one beyond: no such YEAR): months");
        x = Check.told("land a 1 1;");
        Check.due("1000000001 days go into 7 months, but there is no such YEAR", x.months(0, LAST_YEAR, 7), SPENT);
        Check.due("1000000000 days go into 10", x.months(0, LAST_YEAR, 10), LAST_YEAR);
        Check.due("up to YEAR 1000000000", x.months(0, LAST_YEAR - 9, 10), LAST_YEAR);
        Check.due("the last by 7", x.months(0, LAST_YEAR - 6, 7), LAST_YEAR - 6);
        Check.due("none by 7 any more", x.months(0, LAST_YEAR - 5, 7), SPENT);
        thousandYears();
    }

    private static void thousandYears() {
        Check.sentence("promise 26: 1000 gone through, no more: with at most 99 steps no YEAR is first behind them");
        // LENGTHS repeat modulo n within n YEARS, so that 1000 can only be seen by what is SPENT
        LongYears x = Check.told("land a 1 33;land b 2 98;");
        Check.due("never by 33", x.months(0, 1, 33), SPENT);
        Check.due("never by 98", x.months(1, 1, 98), SPENT);
        Check.due("never by 49", x.months(1, LAST_YEAR - 1500, 49), SPENT);
    }
}
