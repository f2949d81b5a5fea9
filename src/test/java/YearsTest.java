/** Promises 7 to 26: years, dates, the sky, feasts, people, springs, deeds, hire and months, at their edges. */
public final class YearsTest {
    private static final long LAST = 1000000000000L;
    private static final long NEVER = Long.MIN_VALUE;
    private static final int MAX = Integer.MAX_VALUE;
    private static final int MIN = Integer.MIN_VALUE;

    public static void main(String[] args) {
        lengths();
        dates();
        counts();
        rounds();
        feasts();
        rules();
        lives();
        ages();
        oftens();
        springs();
        nexts();
        alikes();
        deeds();
        dueEdges();
        ends();
        hires();
        months();
        Check.end();
    }

    private static void lengths() {
        LongYears x = Check.told("land a 3 99;land b 9999 -99;land c 1 -1;");
        Check.due("length of year 1", x.length(0, 1), 3);
        Check.due("length of the last year", x.length(0, 1000000000), 3 + 999999999L * 99);
        Check.due("one beyond", x.length(0, 1000000001), -1);
        Check.due("year 0", x.length(0, 0), -1);
        Check.due("a year below 0", x.length(0, MIN), -1);
        Check.due("a land's last year", x.length(1, 101), 99);
        Check.due("behind it", x.length(1, 102), -1);
        Check.due("one year alone", x.length(2, 1), 1);
        Check.due("no second one", x.length(2, 2), -1);
        Check.due("no such land", x.length(3, 1), -1);
        Check.due("no such land", x.length(-1, 1), -1);
    }

    private static void dates() {
        LongYears x = Check.told("land a 1 0;land b 9999 -99;land c 3 99 from 99999;land d 1 -1 from 5;");
        Check.due("a year of one day each", x.date(0, LAST, 0), LAST + 1);
        Check.due("its day", x.date(0, LAST, 1), 1);
        long days = 101L * (9999 + 99) / 2;
        Check.due("the last day", x.date(1, days - 1, 0), 101);
        Check.due("the last day", x.date(1, days - 1, 1), 99);
        Check.due("behind the last year", x.date(1, days, 0), -1);
        Check.due("behind the last year", x.date(1, LAST, 1), -1);
        Check.due("ahead of the first year", x.date(2, 99998, 0), -1);
        Check.due("the first day", x.date(2, 99999, 0), 1);
        Check.due("the first day", x.date(2, 99999, 1), 1);
        Check.due("day 3", x.date(2, 100001, 1), 3);
        Check.due("year 2", x.date(2, 100002, 0), 2);
        Check.due("year 2", x.date(2, 100002, 1), 1);
        Check.due("the only day", x.date(3, 5, 0), 1);
        Check.due("behind it", x.date(3, 6, 0), -1);
        Check.due("ahead of it", x.date(3, 4, 0), -1);
        Check.due("a count below 0", x.date(0, -1, 0), -1);
        Check.due("a count beyond", x.date(0, LAST + 1, 0), -1);
        Check.due("a count far beyond", x.date(0, Long.MAX_VALUE, 0), -1);
        Check.due("no such what", x.date(0, 0, 2), -1);
        Check.due("no such what", x.date(0, 0, -1), -1);
        Check.due("no such land", x.date(4, 0, 0), -1);
        Check.due("no such land", x.date(-1, 0, 0), -1);
    }

    private static void counts() {
        LongYears x = Check.told("land a 1 0;land b 9999 99;land c 5 -2 from 10;land d 999 0;");
        Check.due("far", x.count(0, 1000000000, 1), 999999999);
        Check.due("day 2 of a year of one", x.count(0, 1000000000, 2), -1);
        Check.due("beyond all years", x.count(0, 1000000001, 1), -1);
        Check.due("year 0", x.count(0, 0, 1), -1);
        Check.due("beyond all counts", x.count(1, 1000000000, 1), -1);
        Check.due("beyond all counts", x.count(1, 1000000000, 99000000000L), -1);
        Check.due("beyond all counts", x.count(1, 1000000000, Long.MAX_VALUE), -1);
        Check.due("beyond all counts", x.count(1, 1500002, 1), -1);
        Check.due("the last day", x.count(2, 3, 1), 18);
        Check.due("no second one", x.count(2, 3, 2), -1);
        Check.due("no such year", x.count(2, 4, 1), -1);
        Check.due("no such year", x.count(2, 1000000000, 1), -1);
        Check.due("day 0", x.count(2, 1, 0), -1);
        Check.due("a day below 0", x.count(2, 1, Long.MIN_VALUE), -1);
        Check.due("the last year that can be asked", x.count(3, 1000000000, 999), 999L * 1000000000 - 1);
        Check.due("no such land", x.count(4, 1, 1), -1);
        Check.due("no such land", x.count(-1, 1, 1), -1);
    }

    private static void rounds() {
        LongYears x = Check.told("week 30 29;moon 9999 99 9998;sun 9999 99;");
        Check.due("week day of 0", x.round(0, 0), 29);
        Check.due("week day of 1", x.round(1, 0), 0);
        Check.due("moon of 0", x.round(0, 1), 7);
        Check.due("moon of 1", x.round(1, 1), 0);
        Check.due("season of 0", x.round(0, 2), 0);
        Check.due("season of 101: 9999 by 99 is 101", x.round(100, 2), 3);
        Check.due("season of 101", x.round(101, 2), 0);
        Check.due("week day of the last", x.round(LAST, 0), (LAST + 29) % 30);
        Check.due("moon of the last", x.round(LAST, 1), (LAST * 99 + 9998) % 9999 * 8 / 9999);
        Check.due("season of the last", x.round(LAST, 2), LAST * 99 % 9999 * 4 / 9999);
        Check.due("below 0", x.round(-1, 1), -1);
        Check.due("beyond", x.round(LAST + 1, 2), -1);
        Check.due("no such what", x.round(0, 3), -1);
        Check.due("no such what", x.round(0, -1), -1);
    }

    private static void feasts() {
        LongYears x = Check.told("land a 9999 0;feast one day = 1 and year % 2 = 0;"
                + "feast two year = 3 and day = 2;feast all 1;feast no 1/0;");
        Check.due("feast", x.feast(0, 9999), 1);
        Check.due("no feast", x.feast(0, 0), 0);
        Check.due("an error is no feast", x.feast(3, 0), 0);
        Check.due("no such feast", x.feast(4, 0), -1);
        Check.due("no such feast", x.feast(-1, 0), -1);
        Check.due("no such count", x.feast(0, -1), -1);
        Check.due("no such count", x.feast(0, LAST + 1), -1);
        Check.due("festive of the day itself", x.festive(0, 9999), 9999);
        Check.due("a feast of the next year", x.festive(0, 10000), 9999 * 3);
        Check.due("the last of 20000", x.festive(1, 0), 19999);
        Check.due("behind the last of 20000", x.festive(1, 20000), -2);
        Check.due("spent", x.festive(3, 0), -2);
        Check.due("at the last count", x.festive(2, LAST), LAST);
        Check.due("nothing behind the last count", x.festive(3, LAST), -2);
        Check.due("no such count", x.festive(2, LAST + 1), -1);
        Check.due("no such count", x.festive(2, -1), -1);
        Check.due("no such feast", x.festive(4, 0), -1);
        Check.due("no such feast", x.festive(-1, 0), -1);
    }

    private static void rules() {
        rule("1 + 2 * 3", 7);
        rule("(1 + 2) * 3", 9);
        rule("9 - 3 - 2", 4);
        rule("90 / 9 / 2", 5);
        rule("7 % 4 * 2", 6);
        rule("2 * 7 % 4", 2);
        rule("(1 - 8) / 2", -3);
        rule("(1 - 8) % 2", -1);
        rule("8 / (1 - 4)", -2);
        rule("8 % (1 - 4)", 2);
        rule("1 < 2", 1);
        rule("2 <= 1", 0);
        rule("2 <= 2", 1);
        rule("2 = 2", 1);
        rule("2 <> 2", 0);
        rule("2 >= 3", 0);
        rule("3 > 2", 1);
        rule("2 > 2", 0);
        rule("1 + 1 = 2", 1);
        rule("not 1 = 2", 1);
        rule("not 5", 0);
        rule("not not 5", 1);
        rule("not 0 and 0", 0);
        rule("not (0 and 0)", 1);
        rule("3 and 4", 1);
        rule("3 and 0", 0);
        rule("0 or 4", 1);
        rule("0 or 0", 0);
        rule("1 or 1 and 0", 1);
        rule("(1 or 1) and 0", 0);
        rule("1 or 1 / 0", NEVER);
        rule("0 and 1 % 0", NEVER);
        rule("not (1 / 0)", NEVER);
        rule("1 / 0 = 1 / 0", NEVER);
        rule("1000 * 1000 * 1000 * 1000", LAST);
        rule("1000 * 1000 * 1000 * 1000 + 1", NEVER);
        rule("0 - 1000 * 1000 * 1000 * 1000", -LAST);
        rule("0 - 1000 * 1000 * 1000 * 1000 - 1", NEVER);
        rule("1000 * 1000 * 1000 * 1000 + 1 - 1", NEVER);
        rule("(1000 * 1000 * 1000 * 1000) * (1000 * 1000 * 1000 * 1000) * 0", NEVER);
        rule("(4096 * 4096 * 256) * (4096 * 4096 * 256)", NEVER);
        rule("(1000 * 1000 * 1000 * 1000) * (0 - 1)", -LAST);
        rule("(1000 * 1000 * 1000 * 1000) * 0", 0);
        rule("0 * (1000 * 1000 * 1000 * 1000)", 0);
        rule("9999", 9999);
        rule("day + year + length", 0);
        rule("not ".repeat(63) + "1", 0);
        rule("not ".repeat(62) + "1", 1);
        rule("1-(1-(1-(1-(1-(1-(1-(1-(1-3))))))))", -2);
        LongYears x = Check.told("week 5 1;land a 3 1 from 2;feast f year * 9000 + day * 100 + length;feast w week * 100 + moon * 10 + season;");
        Check.due("no date yet", x.rule(0, 1), 0);
        Check.due("the first day", x.rule(0, 2), 9103);
        Check.due("year 2", x.rule(0, 5), 18104);
        Check.due("week, moon, season", x.rule(1, 28), (28 + 1) % 5 * 100 + 70);
        Check.due("season", x.rule(1, 300), (300 + 1) % 5 * 100 + 600 % 59 * 8 / 59 * 10 + 3);
        Check.due("no such count", x.rule(0, -1), NEVER);
        Check.due("no such count", x.rule(0, LAST + 1), NEVER);
        Check.due("no such feast", x.rule(2, 1), NEVER);
        Check.due("no such feast", x.rule(-1, 1), NEVER);
        x = Check.told("feast f year;land a 1 0;");
        Check.due("a land told behind the feast", x.rule(0, 41), 42);
        Check.due("a value beyond", x.rule(0, LAST - 1), LAST);
        Check.due("a value beyond", x.rule(0, LAST), NEVER);
    }

    private static void rule(String rule, long value) {
        LongYears x = Check.told("feast f " + rule + ";");
        Check.due("rule " + rule, x.rule(0, 17), value);
        Check.due("feast " + rule, x.feast(0, 17), value != 0 && value != NEVER ? 1 : 0);
    }

    private static void lives() {
        LongYears x = Check.told("land a 9999 99;person p 99999 99999 died 99999 99999;person q 1 1;person r 1 1;");
        long begin = 99998L * 9999 + 99L * (99998L * 99997 / 2);
        Check.due("a late birth", x.life(0, 0), begin + 99998);
        Check.due("a death on that day", x.life(0, 1), begin + 99998);
        Check.due("an early birth", x.life(1, 0), 0);
        Check.due("no death", x.life(1, 1), -1);
        Check.due("no such what", x.life(1, 2), -1);
        Check.due("no such what", x.life(0, 2), -1);
        Check.due("no such what", x.life(1, -1), -1);
        Check.due("no such person", x.life(3, 0), -1);
        Check.due("no such person", x.life(-1, 0), -1);
        Check.due("the elder", x.elder(0, 1), 1);
        Check.due("the elder", x.elder(1, 0), 1);
        Check.due("both on one count", x.elder(1, 2), 1);
        Check.due("both on one count", x.elder(2, 1), 2);
        Check.due("no such person", x.elder(0, 3), -1);
        Check.due("no such person", x.elder(3, 0), -1);
        Check.due("no such person", x.elder(-1, 0), -1);
    }

    private static void ages() {
        LongYears x = Check.told("land a 1 0;land b 10 -3;land c 5 0 from 20;land d 2 1;person p 6 1 died 9 1;person q 31 1;");
        Check.due("on the day", x.age(0, 5, 0), 0);
        Check.due("a year of a day", x.age(0, 6, 0), 1);
        Check.due("dead or not", x.age(0, LAST, 0), LAST - 5);
        Check.due("not born yet", x.age(0, 4, 0), -1);
        Check.due("day 6 of year 1: year 2 has one, too", x.age(0, 15, 1), 1);
        Check.due("a day ahead of it", x.age(0, 14, 1), 0);
        Check.due("no such day any more", x.age(0, 21, 1), 1);
        Check.due("behind the last year", x.age(0, 50, 1), 1);
        Check.due("no date of the birth yet", x.age(0, 50, 2), -1);
        Check.due("no date of the birth any more", x.age(1, 50, 1), -1);
        Check.due("no such count", x.age(0, -1, 0), -1);
        Check.due("no such count", x.age(0, LAST + 1, 0), -1);
        Check.due("no such land", x.age(0, 50, 4), -1);
        Check.due("no such land", x.age(0, 50, -1), -1);
        Check.due("no such person", x.age(2, 50, 0), -1);
        Check.due("no such person", x.age(-1, 50, 0), -1);
    }

    private static void oftens() {
        LongYears x = Check.told("land a 3 2;land b 9 -4;land c 5 0;");
        Check.due("all years", x.often(0, 1, 1000000000, 1), 1000000000);
        Check.due("years from the second on", x.often(0, 1, 1000000000, 4), 999999999);
        Check.due("years from the second on", x.often(0, 1, 1000000000, 5), 999999999);
        Check.due("years from the third on", x.often(0, 1, 1000000000, 6), 999999998);
        Check.due("the last year alone", x.often(0, 1, 1000000000, 3 + 2L * 999999999), 1);
        Check.due("no year", x.often(0, 1, 1000000000, 4 + 2L * 999999999), 0);
        Check.due("no year", x.often(0, 1, 1000000000, Long.MAX_VALUE), 0);
        Check.due("the last day of the first year", x.often(0, 1, 10, 3), 10);
        Check.due("one year asked", x.often(0, 2, 2, 5), 1);
        Check.due("one year asked", x.often(0, 2, 2, 6), 0);
        Check.due("three years", x.often(1, 1, 1000000000, 1), 3);
        Check.due("two years", x.often(1, 1, 1000000000, 5), 2);
        Check.due("one year", x.often(1, 1, 1000000000, 6), 1);
        Check.due("none", x.often(1, 1, 1000000000, 10), 0);
        Check.due("none there any more", x.often(1, 4, 9, 1), 0);
        Check.due("alike years", x.often(2, 3, 7, 5), 5);
        Check.due("alike years", x.often(2, 3, 7, 6), 0);
        Check.due("a above b", x.often(2, 3, 2, 1), -1);
        Check.due("year 0", x.often(2, 0, 2, 1), -1);
        Check.due("beyond all years", x.often(2, 1, 1000000001, 1), -1);
        Check.due("beyond all years", x.often(2, MIN, MAX, 1), -1);
        Check.due("number 0", x.often(2, 1, 2, 0), -1);
        Check.due("number below 0", x.often(2, 1, 2, Long.MIN_VALUE), -1);
        Check.due("no such land", x.often(3, 1, 2, 1), -1);
        Check.due("no such land", x.often(-1, 1, 2, 1), -1);
    }

    private static void springs() {
        LongYears x = Check.told("land a 8 0;land b 9999 99;land c 250 -99;land d 365 0 from 1;sun 17 2;");
        Check.due("springs on 0, 9, 17, 26 ..: year 1", x.springs(0, 1), 1);
        Check.due("year 2, 8 .. 15", x.springs(0, 2), 1);
        Check.due("year 3, 16 .. 23", x.springs(0, 3), 1);
        Check.due("none in year 16, 120 .. 127", x.springs(0, 16), 0);
        Check.due("the first year without", x.many(0, 1, 0), 16);
        Check.due("no year with two", x.many(0, 1, 2), -2);
        Check.due("begins behind the last count", x.springs(1, 1000000000), -1);
        Check.due("a year there that begins behind it is not gone through", x.many(1, 1000000000, 1), -2);
        Check.due("many of them", x.springs(1, 1), 1 + 9998 * 2 / 17);
        Check.due("the last year, 401 .. 452", x.springs(2, 3), 452 * 2 / 17 - 400 * 2 / 17);
        Check.due("no such year", x.springs(2, 4), -1);
        Check.due("the years end", x.many(2, 1, 99), -2);
        Check.due("no such year", x.many(2, 4, 1), -1);
        Check.due("the first spring ahead of the land", x.springs(3, 1), 365 * 2 / 17);
        Check.due("beyond all years", x.springs(0, 1000000001), -1);
        Check.due("year 0", x.springs(0, 0), -1);
        Check.due("the last years", x.many(0, 1000000000, 0), x.springs(0, 1000000000) == 0 ? 1000000000 : -2);
        Check.due("no such n", x.many(0, 1, -1), -1);
        Check.due("no such n", x.many(0, 1, 100), -1);
        Check.due("n 99 is one", x.many(0, 1, 99), -2);
        Check.due("no such land", x.many(4, 1, 1), -1);
        Check.due("no such land", x.springs(-1, 1), -1);
        x = Check.told("land a 1000 0 from 1000;land b 1000 0 from 1001;sun 1000 1;");
        Check.due("begins on the last count", x.springs(0, 1000000000), 1);
        Check.due("begins on the last count", x.many(0, 1000000000, 1), 1000000000);
        Check.due("begins behind it", x.springs(1, 1000000000), -1);
        Check.due("begins behind it", x.many(1, 1000000000, 1), -2);
        x = Check.told("land a 8 1;sun 8 1;");
        Check.due("year 993 has 1000 days", x.springs(0, 993), 125);
        Check.due("two springs first in year 2: 8, 16", x.many(0, 1, 2), 2);
        Check.due("not within 1000", x.many(0, 1, 0), -2);
        x = Check.told("land a 9000 0;land b 8 0;sun 9000 1;");
        Check.due("1000 gone through: year 1 has the spring", x.many(1, 1, 1), 1);
        Check.due("the next spring is on 9000, year 1126", x.many(1, 126, 1), -2);
        Check.due("the last of 1000", x.many(1, 127, 1), 1126);
    }

    private static void nexts() {
        LongYears x = Check.told("land a 9999 0 from 99999;week 30 0;moon 9999 1 0;");
        Check.due("nothing asked", x.next(7, -1, -1, -1), 7);
        Check.due("the last of 20000", x.next(80000, 1, -1, -1), 99999);
        Check.due("one too far", x.next(79999, 1, -1, -1), -2);
        Check.due("day 9999", x.next(99999, 9999, -1, -1), 99999 + 9998);
        Check.due("no such day", x.next(99999, 10000, -1, -1), -2);
        Check.due("a day that can't be asked", x.next(0, 100000, -1, -1), -1);
        Check.due("a day that can't be asked", x.next(0, -2, -1, -1), -1);
        Check.due("week day 29", x.next(0, -1, 29, -1), 29);
        Check.due("week day 30", x.next(0, -1, 30, -1), -1);
        Check.due("week day -2", x.next(0, -1, -2, -1), -1);
        Check.due("moon 1", x.next(0, -1, -1, 1), 1250);
        Check.due("moon 1 on a week day", x.next(0, -1, 0, 1), 1260);
        Check.due("moon -2", x.next(0, -1, -1, -2), -1);
        Check.due("moon 8", x.next(0, -1, -1, 8), -1);
        Check.due("the last count", x.next(LAST, -1, -1, -1), LAST);
        Check.due("none behind it", x.next(LAST, -1, (int) ((LAST + 1) % 30), -1), -2);
        Check.due("beyond", x.next(LAST + 1, -1, -1, -1), -1);
        Check.due("below 0", x.next(-1, -1, -1, -1), -1);
    }

    private static void alikes() {
        LongYears x = Check.told("land a 10 0;land b 10 0 from 5;land c 7 0 from 30000;land d 3 -1 from 30010;");
        Check.due("never alike", x.alike(0, 1, 0, false), -2);
        Check.due("alike in day", x.alike(0, 2, 10001, false), 30000);
        Check.due("one too far", x.alike(0, 2, 10000, false), -2);
        Check.due("the years never", x.alike(0, 2, 30000, true), -2);
        Check.due("a land that ends", x.alike(0, 3, 30000, false), 30010);
        Check.due("no date is not alike", x.alike(2, 3, 30016, false), -2);
        Check.due("the same land", x.alike(1, 1, 0, false), -1);
        Check.due("no such land", x.alike(1, 4, 0, false), -1);
        Check.due("no such land", x.alike(-1, 1, 0, false), -1);
        Check.due("no such count", x.alike(0, 1, -1, false), -1);
        Check.due("no such count", x.alike(0, 1, LAST + 1, false), -1);
        Check.due("at the last count", x.alike(0, 1, LAST, false), -2);
        Check.due("at the last count", x.alike(0, 2, LAST, false), LAST % 10 == (LAST - 30000) % 7 ? LAST : -2);
    }

    private static void deeds() {
        LongYears x = Check.told("land a 10 0;land b 7 -2;land c 4 3 from 13;feast f year = 4 and day = 3;feast no 0;"
                + "deed y 1 4 years 2 pay 7;deed d 1 4 days 0 pay 7;deed t 1 4 till f pay 7;deed n 1 4 till no pay 7;");
        Check.due("its count", x.deed(0, 0, 0), 3);
        Check.due("two years later", x.deed(0, 0, 1), 23);
        Check.due("two years ended", x.deed(0, 0, 2), 14);
        Check.due("by b day 4 of year 3, which has 3: the first of year 4", x.deed(0, 1, 1), 15);
        Check.due("years that end on 6, 11, 14 and 15", x.deed(0, 1, 2), 28);
        Check.due("no date of it by c", x.deed(0, 2, 0), -1);
        Check.due("no date of it by c", x.deed(0, 2, 1), -1);
        Check.due("no date of it by c", x.deed(0, 2, 2), -1);
        Check.due("at once", x.deed(1, 0, 1), 3);
        Check.due("at once", x.deed(1, 0, 2), 0);
        Check.due("till the feast", x.deed(2, 0, 1), 32);
        Check.due("till the feast", x.deed(2, 0, 2), 21);
        Check.due("till the feast, by b", x.deed(2, 1, 1), 32);
        Check.due("all four years of b end", x.deed(2, 1, 2), 28);
        Check.due("no feast", x.deed(3, 0, 0), 3);
        Check.due("no feast", x.deed(3, 0, 1), -2);
        Check.due("no feast", x.deed(3, 0, 2), -2);
        Check.due("no such what", x.deed(0, 0, 3), -1);
        Check.due("no such what", x.deed(0, 0, -1), -1);
        Check.due("no such land", x.deed(0, 3, 0), -1);
        Check.due("no such land", x.deed(0, -1, 0), -1);
        Check.due("no such deed", x.deed(4, 0, 0), -1);
        Check.due("no such deed", x.deed(-1, 0, 0), -1);
    }

    private static void dueEdges() {
        LongYears x = Check.told("land a 5 -2;deed p 1 5 years 2 pay 1;deed q 1 1 years 2 pay 1;deed r 1 1 years 3 pay 1;"
                + "deed s 1 5 years 1 pay 1;");
        Check.due("no day 5, and no year behind it", x.deed(0, 0, 1), -1);
        Check.due("no pay then", x.deed(0, 0, 2), -1);
        Check.due("its count all the same", x.deed(0, 0, 0), 4);
        Check.due("the last day", x.deed(1, 0, 1), 8);
        Check.due("its year ends on it", x.deed(1, 0, 2), 3);
        Check.due("no such year", x.deed(2, 0, 1), -1);
        Check.due("the first day of the last year", x.deed(3, 0, 1), 8);
        x = Check.told("land a 1 0;feast f day = 1;feast g year = 2 * 9999 + 3;feast h year = 2 * 9999 + 4;"
                + "deed p 1 1 till f pay 5;deed q 1 1 till g pay 5;deed r 1 1 till h pay 5;");
        Check.due("the feast of the day itself does not count", x.deed(0, 0, 1), 1);
        Check.due("the last of 20000", x.deed(1, 0, 1), 20000);
        Check.due("its pay", x.deed(1, 0, 2), 100000);
        Check.due("one too far", x.deed(2, 0, 1), -2);
        x = Check.told("land a 9999 99;land b 9999 99 from 1;land c 1 0;deed p 99999 1 years 999 pay 999;"
                + "deed q 99999 1 days 99999 pay 1;");
        long at = x.deed(0, 0, 0);
        Check.due("far by c", x.deed(0, 2, 1), at + 999);
        Check.due("far pay by c", x.deed(0, 2, 2), 999 * 999);
        Check.due("far by a", x.deed(0, 0, 1), x.count(0, 100998, 1));
        Check.due("far by a, pay", x.deed(0, 0, 2), 999 * 999);
        Check.due("far by b", x.deed(0, 1, 1), x.count(1, 100997, x.date(1, at, 1)));
        Check.due("far days", x.deed(1, 2, 2), 99999);
    }

    private static void ends() {
        LongYears x = Check.told("land a 3 0;land b 3 -1 from 10;land c 1 0;");
        Check.due("the count's own end is not behind it", x.ends(0, 2, 2), 0);
        Check.due("the end on the last of m days", x.ends(0, 2, 3), 1);
        Check.due("ahead of the first year", x.ends(1, 0, 11), 0);
        Check.due("its first end", x.ends(1, 0, 12), 1);
        Check.due("all three", x.ends(1, 0, 99999), 3);
        Check.due("behind all", x.ends(1, 15, 99999), 0);
        Check.due("the very last", x.ends(1, 14, 1), 1);
        Check.due("a year a day", x.ends(2, LAST - 99999, 99999), 99999);
        Check.due("beyond", x.ends(2, LAST - 99998, 99999), -1);
        Check.due("m 0", x.ends(2, 0, 0), -1);
        Check.due("m 100000", x.ends(2, 0, 100000), -1);
        Check.due("no such count", x.ends(2, -1, 1), -1);
        Check.due("no such count", x.ends(2, Long.MAX_VALUE, 1), -1);
        Check.due("no such land", x.ends(3, 0, 1), -1);
        Check.due("no such land", x.ends(-1, 0, 1), -1);
    }

    private static void hires() {
        LongYears x = Check.told("land a 10 5;land b 1 0;land c 300 -1;");
        Check.due("ends on 9, 24, 44: both of the first two", x.hire(0, 0, 50, 16), 8);
        Check.due("the first of several", x.hire(0, 0, 50, 10), 0);
        Check.due("none ends: the first", x.hire(0, 10, 3, 5), 10);
        Check.due("n 0", x.hire(0, 5, 0, 1), 5);
        Check.due("up to the last count", x.hire(1, LAST - 999 - 99999, 999, 99999), LAST - 999 - 99999);
        Check.due("beyond", x.hire(1, LAST - 999 - 99998, 999, 99999), -1);
        Check.due("n 1000", x.hire(1, 0, 1000, 1), -1);
        Check.due("n -1", x.hire(1, 0, -1, 1), -1);
        Check.due("m 0", x.hire(1, 0, 1, 0), -1);
        Check.due("m 100000", x.hire(1, 0, 1, 100000), -1);
        Check.due("no such count", x.hire(1, -1, 1, 1), -1);
        Check.due("no such count", x.hire(1, Long.MAX_VALUE, 1, 1), -1);
        Check.due("no such land", x.hire(3, 0, 1, 1), -1);
        Check.due("no such land", x.hire(-1, 0, 1, 1), -1);
    }

    private static void months() {
        LongYears x = Check.told("land a 97 0;land b 9999 99;land c 5 -1;land d 98 1;");
        Check.due("1 and 97", x.parts(0, 1, 0), 2);
        Check.due("97", x.parts(0, 1, 1), 97);
        Check.due("a far year: 9999 and 98999999901 is 99000009900", x.parts(1, 1000000000, 1), 99);
        Check.due("one day: 1", x.parts(2, 5, 0), 1);
        Check.due("no such year", x.parts(2, 6, 0), -1);
        Check.due("year 0", x.parts(0, 0, 0), -1);
        Check.due("no such what", x.parts(0, 1, 2), -1);
        Check.due("no such what", x.parts(0, 1, -1), -1);
        Check.due("no such land", x.parts(4, 1, 0), -1);
        Check.due("101 is divided by none up to 99 but 1", x.parts(3, 4, 1), 1);
        Check.due("100: 1 2 4 5 10 20 25 50", x.parts(3, 3, 0), 8);
        Check.due("the year itself", x.months(0, 5, 97), 5);
        Check.due("never", x.months(0, 5, 96), -2);
        Check.due("5 4 3 2 1", x.months(2, 1, 3), 3);
        Check.due("the years end", x.months(2, 4, 3), -2);
        Check.due("no such year", x.months(2, 6, 1), -1);
        Check.due("99 and its double", x.months(3, 3, 99), 101);
        Check.due("n 0", x.months(0, 1, 0), -1);
        Check.due("n 100", x.months(0, 1, 100), -1);
        Check.due("the years end at 1000000000", x.months(3, 1000000000, 99), (97L + 1000000000) % 99 == 0
                ? 1000000000 : -2);
        Check.due("beyond all years", x.months(0, 1000000001, 1), -1);
        Check.due("no such land", x.months(-1, 1, 1), -1);
    }
}
