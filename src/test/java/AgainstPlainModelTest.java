import java.util.ArrayList;
import java.util.List;
import java.util.Random;

/** Promises 7 to 35 on texts of chance, each answer against the plain model's. */
public final class AgainstPlainModelTest {
    private static final int TEXTS = 400;
    private static final Random RANDOM = new Random(20261118);

    private static PlainModel model;
    private static LongYears x;
    private static String of;

    public static void main(String[] args) {
        for (int i = 0; i < TEXTS; i++) {
            model = new PlainModel(RANDOM);
            of = " of <" + model.text + ">";
            x = Check.told(model.text.toString());
            Check.due("knots" + of, x.size(5), model.knots);
            for (int land = 0; land < model.lands.size(); land++) {
                dates(land);
                farDates(land);
                springs(land);
                lengths(land);
                hires(land);
                deeds(land);
                ages(land);
            }
            skies();
            feasts();
            findings();
            notes();
        }
        Check.end();
    }

    private static int chance(int least, int most) {
        return least + RANDOM.nextInt(most - least + 1);
    }

    private static int someCount() {
        return RANDOM.nextBoolean() ? chance(0, 400) : chance(0, 22000);
    }

    private static void dates(int land) {
        for (int i = 0; i < 20; i++) {
            int count = someCount();
            int year = model.years[land][count];
            int day = model.days[land][count];
            Check.due("date(" + land + ", " + count + ", 0)" + of, x.date(land, count, 0), year == 0 ? -1 : year);
            Check.due("date(" + land + ", " + count + ", 1)" + of, x.date(land, count, 1), year == 0 ? -1 : day);
            if (year > 0) {
                Check.due("count(" + land + ", " + year + ", " + day + ")" + of, x.count(land, year, day), count);
                long length = model.length(land, year);
                Check.due("count behind the year" + of, x.count(land, year, length + 1), -1);
                Check.due("day 0" + of, x.count(land, year, 0), -1);
                Check.due("length" + of, x.length(land, year), length);
            }
        }
    }

    private static void farDates(int land) {
        for (int i = 0; i < 10; i++) {
            long count = (long) (RANDOM.nextDouble() * PlainModel.LAST);
            count = i == 0 ? PlainModel.LAST : count;
            long year = x.date(land, count, 0);
            long day = x.date(land, count, 1);
            int[] told = model.lands.get(land);
            if (told[1] < 0) {
                Check.due("no date so far" + of, year, -1);
                continue;
            }
            long gone = year - 1;
            long begin = told[2] + gone * told[0] + (told[1] == 0 ? 0 : told[1] * (gone * (gone - 1) / 2));
            Check.due("the far date's count" + of, begin + day - 1, count);
            Check.due("the far date's day" + of, day >= 1 && day <= told[0] + gone * told[1], true);
            if (year <= 1000000000) {
                Check.due("back" + of, x.count(land, (int) year, day), count);
            }
        }
    }

    private static void springs(int land) {
        for (int i = 0; i < 4; i++) {
            int year = chance(1, 60);
            long springs = model.springs(land, year);
            if (springs != -3) {
                Check.due("springs(" + land + ", " + year + ")" + of, x.springs(land, year), springs);
            }
            int n = chance(0, 3);
            long due = model.many(land, year, n);
            if (due != -3) {
                Check.due("many(" + land + ", " + year + ", " + n + ")" + of, x.many(land, year, n), due);
            }
        }
    }

    private static void lengths(int land) {
        for (int i = 0; i < 5; i++) {
            int year = RANDOM.nextBoolean() ? chance(1, 100) : chance(1, 1000000000);
            Check.due("length(" + land + ", " + year + ")" + of, x.length(land, year), model.length(land, year));
            for (int what = 0; what <= 1; what++) {
                Check.due("parts(" + land + ", " + year + ", " + what + ")" + of,
                        x.parts(land, year, what), model.parts(land, year, what));
            }
            int n = chance(1, 99);
            Check.due("months(" + land + ", " + year + ", " + n + ")" + of,
                    x.months(land, year, n), model.months(land, year, n));
            int a = chance(1, 80);
            int b = a + chance(0, 200);
            int number = chance(1, RANDOM.nextBoolean() ? 9 : 500);
            Check.due("often(" + land + ", " + a + ", " + b + ", " + number + ")" + of,
                    x.often(land, a, b, number), model.often(land, a, b, number));
        }
    }

    private static void hires(int land) {
        for (int i = 0; i < 4; i++) {
            int count = someCount();
            int m = RANDOM.nextBoolean() ? chance(1, 60) : chance(1, 9000);
            Check.due("ends(" + land + ", " + count + ", " + m + ")" + of,
                    x.ends(land, count, m), model.ends(land, count, m));
            int n = chance(0, 60);
            m = chance(1, 600);
            Check.due("hire(" + land + ", " + count + ", " + n + ", " + m + ")" + of,
                    x.hire(land, count, n, m), model.hire(land, count, n, m));
        }
    }

    private static void deeds(int land) {
        for (int deed = 0; deed < model.deeds.size(); deed++) {
            for (int what = 0; what <= 2; what++) {
                long due = model.deed(deed, land, what);
                long got = x.deed(deed, land, what);
                if (due != Long.MAX_VALUE) {
                    Check.due("deed(" + deed + ", " + land + ", " + what + ")" + of, got, due);
                } else if (what == 1) {
                    Check.due("a far due" + of, got >= PlainModel.FAR, true);
                }
            }
        }
    }

    private static void ages(int land) {
        for (int person = 0; person < model.people.size(); person++) {
            int[] life = model.people.get(person);
            Check.due("birth" + of, x.life(person, 0), life[0]);
            Check.due("death" + of, x.life(person, 1), life[1]);
            for (int i = 0; i < 5; i++) {
                int count = i == 0 ? life[0] : life[0] + chance(-2, RANDOM.nextBoolean() ? 100 : 9000);
                if (count >= 0) {
                    Check.due("age(" + person + ", " + count + ", " + land + ")" + of,
                            x.age(person, count, land), model.age(person, count, land));
                }
            }
            for (int other = 0; other < model.people.size(); other++) {
                Check.due("elder" + of, x.elder(person, other),
                        model.people.get(other)[0] < life[0] ? other : person);
            }
        }
    }

    private static void skies() {
        for (int i = 0; i < 10; i++) {
            long count = RANDOM.nextBoolean() ? someCount() : (long) (RANDOM.nextDouble() * PlainModel.LAST);
            Check.due("week day of " + count + of, x.round(count, 0), model.weekDay(count));
            Check.due("moon of " + count + of, x.round(count, 1), model.moonOf(count));
            Check.due("season of " + count + of, x.round(count, 2), model.seasonOf(count));
        }
    }

    private static void feasts() {
        for (int feast = 0; feast < model.feasts.size(); feast++) {
            for (int i = 0; i < 10; i++) {
                int count = someCount();
                Long value = model.value(model.feasts.get(feast), count);
                Check.due("rule(" + feast + ", " + count + ")" + of, x.rule(feast, count),
                        value == null ? Long.MIN_VALUE : value);
                Check.due("feast(" + feast + ", " + count + ")" + of, x.feast(feast, count),
                        value == null || value == 0 ? 0 : 1);
            }
            int count = someCount();
            Check.due("festive(" + feast + ", " + count + ")" + of,
                    x.festive(feast, count), model.festive(feast, count));
        }
    }

    private static void findings() {
        for (int i = 0; i < 5; i++) {
            int count = someCount();
            int day = RANDOM.nextBoolean() ? -1 : chance(1, 200);
            int week = RANDOM.nextBoolean() ? -1 : chance(0, model.week[0] - 1);
            int moon = RANDOM.nextBoolean() ? -1 : chance(0, 7);
            Check.due("next(" + count + ", " + day + ", " + week + ", " + moon + ")" + of,
                    x.next(count, day, week, moon), model.next(count, day, week, moon));
            int one = chance(0, 3);
            int other = chance(0, 3);
            boolean year = RANDOM.nextBoolean();
            Check.due("alike(" + one + ", " + other + ", " + count + ", " + year + ")" + of,
                    x.alike(one, other, count, year), model.alike(one, other, count, year));
        }
    }

    private static void notes() {
        askNotes();
        List<int[]> rows = new ArrayList<>();
        tellRows(rows);
        int had = model.notes.size();
        for (int i = 0; i < 4 && model.notes.size() < 7; i++) {
            Check.due("note()" + of, x.note(), model.notes.size());
            of += " note";
            model.notes.add(new PlainModel.Note());
            for (int j = 0; j < 4; j++) {
                say();
            }
        }
        askNotes();
        tellRows(rows);
        int left = x.size(8);
        for (int i = 0; i < left / 2; i++) {
            x.undo();
        }
        if (left > 0 && model.notes.size() > had) {
            for (int i = left / 2; i < left; i++) {
                x.undo();
            }
            while (model.notes.size() > had) {
                model.notes.remove(model.notes.size() - 1);
            }
            of += " undone";
            askNotes();
            Check.due("judged" + of, x.judged(), model.judged(rows));
        }
    }

    private static void say() {
        int word = chance(-1, 8);
        int[] numbers = model.saying(word);
        PlainModel.Note last = model.notes.get(model.notes.size() - 1);
        boolean can = model.canSay(word, numbers[0], numbers[1]) && last.says[word] == null;
        Check.due("says(" + word + ", " + numbers[0] + ", " + numbers[1] + ")" + of,
                x.says(word, numbers[0], numbers[1]), can);
        if (can) {
            last.says[word] = numbers;
            last.on = null;
            of += " says " + word + " " + numbers[0] + " " + numbers[1];
        }
    }

    private static void askNotes() {
        Check.due("gap" + of, x.gap(), model.gap());
        for (int note = 0; note < model.notes.size(); note++) {
            int[] alone = model.alone(note);
            int[] fits = model.fits(note);
            for (int what = 0; what <= 2; what++) {
                Check.due("alone(" + note + ", " + what + ")" + of, x.alone(note, what), alone[what]);
                Check.due("fits(" + note + ", " + what + ")" + of, x.fits(note, what), fits[what]);
            }
        }
    }

    private static void tellRows(List<int[]> rows) {
        for (int i = 0; i < 5 && !model.notes.isEmpty() && rows.size() < 20; i++) {
            int note = RANDOM.nextInt(model.notes.size());
            int[] alone = model.alone(note);
            int[] after = model.notes.get(note).says[7];
            int count = alone[0] == 0 || RANDOM.nextInt(9) == 0 ? chance(0, 19999) : alone[chance(1, 2)];
            for (int[] row : rows) {
                int then = after == null ? -1 : row[1] + after[1];
                if (after != null && row[0] == after[0] && then >= 0 && then < 20000) {
                    count = then;
                }
            }
            rows.add(new int[] {note, count});
            Check.due("told(" + note + ", " + count + ")" + of, x.told(note, count), rows.size());
            Check.due("judged" + of, x.judged(), model.judged(rows));
        }
    }
}
