import java.nio.charset.StandardCharsets;
import java.util.ArrayList;
import java.util.Arrays;
import java.util.List;
import java.util.NoSuchElementException;
import java.util.Random;

/** Runs of 512 calls on one object, in which texts, faults, notes by call, undo, images and counts told follow each other. */
public final class LongRunsTest {
    private static final int RUNS = 80;
    private static final int CALLS = 512;
    // a text of 900 bytes and its fault
    private static final int STEP_MOST = 48;
    private static final String[] BREAKS = {";", "(", ")", "-", "land", "week 7 0;", "moon 59 2 0;", "sun 8 1;", "not",
        "abcdefg", "100000", "0", "note na;", "note q after r 1;", "person pa 1 1;", "deed q 0 1 days 1 pay 1;",
        "feast fa 1;", "feast q 1 < 2 < 3;", "?", "\t", "A", "= =", "land la 1 1;"};

    private final Random random;
    private final LongYears x = new LongYears();
    private final PlainRun plain;
    private final List<String> texts = new ArrayList<>();
    private final List<String> trail = new ArrayList<>();
    private boolean wrong;

    private LongRunsTest(int seed) {
        random = new Random(seed);
        plain = new PlainRun(random);
    }

    public static void main(String[] args) {
        for (int seed = 0; seed < RUNS; seed++) {
            LongRunsTest run = new LongRunsTest(seed);
            while (run.trail.size() + STEP_MOST <= CALLS && !run.wrong) {
                run.step();
            }
        }
        Check.end();
    }

    /** Behind the first wrong answer the two states differ, so that a run ends with it, told with the calls ahead. */
    private void due(String call, long got, long want) {
        trail.add(call + " = " + got);
        boolean first = got != want && !wrong;
        wrong |= got != want;
        Check.due(first ? String.join("; ", trail) + ": the last call" : call, got, want);
    }

    private int chance(int least, int most) {
        return least + random.nextInt(most - least + 1);
    }

    private boolean rarely() {
        return random.nextInt(9) == 0;
    }

    private void step() {
        int dice = random.nextInt(100);
        if (trail.isEmpty() && !rarely() || dice < 2) {
            tell(unbroken());
        } else if (dice < 4) {
            tell(broken());
        } else if (dice < 6) {
            tapes();
        } else if (dice < 8) {
            note();
        } else if (dice < 24) {
            says();
        } else if (dice < 30) {
            due("undo()", x.undo(), plain.undo());
        } else if (dice < 40) {
            int many = rarely() && rarely() ? 21 : 1;
            for (int i = 0; i < many; i++) {
                told();
            }
        } else if (dice < 50) {
            due("judged()", x.judged(), plain.judged());
        } else if (dice < 51) {
            due("forget()", x.forget(), plain.forget());
        } else if (dice < 55) {
            due("keep()", x.keep(), plain.keep());
        } else if (dice < 58) {
            due("back()", x.back(), plain.back());
        } else if (dice < 68) {
            askState();
        } else if (dice < 80) {
            askNotes();
        } else if (dice < 90) {
            askLand();
        } else {
            askOthers();
        }
    }

    // ---- texts

    private String unbroken() {
        if (!texts.isEmpty() && random.nextInt(4) == 0) {
            return texts.get(random.nextInt(texts.size()));
        }
        PlainModel told = new PlainModel(random);
        plain.know(told);
        texts.add(told.text.toString());
        return told.text.toString();
    }

    private String broken() {
        StringBuilder text = new StringBuilder(unbroken());
        int at = random.nextInt(text.length() + 1);
        switch (random.nextInt(3)) {
            case 0: text.insert(at, " " + BREAKS[random.nextInt(BREAKS.length)] + " "); break;
            case 1: text.setLength(at); break;
            default: text.delete(at, Math.min(text.length(), at + 1));
        }
        boolean fits = text.length() <= 880 && new PlainReader(text.toString()).fault != 0;
        return fits ? text.toString() : "land a 1 1; week 7 7;";
    }

    private void tell(String text) {
        byte[] bytes = text.getBytes(StandardCharsets.ISO_8859_1);
        int had = plain.taped();
        byte behind = (byte) " ;a1(".charAt(random.nextInt(5));
        for (int at = 0; at < bytes.length; at += 20) {
            byte[] bite = new byte[20];
            Arrays.fill(bite, behind);
            System.arraycopy(bytes, at, bite, 0, Math.min(20, bytes.length - at));
            feed(bite);
        }
        text(had + bytes.length);
        due("fault(0)", x.fault(0), plain.fault(0));
        due("fault(1)", x.fault(1), plain.fault(1));
    }

    private void feed(byte[] bite) {
        int[] four = new int[5];
        for (int i = 0; i < 20; i++) {
            four[i / 4] = four[i / 4] << 8 | bite[i] & 255;
        }
        due("feed(" + Arrays.toString(four) + ")", x.feed(four[0], four[1], four[2], four[3], four[4]), plain.feed(bite));
    }

    private void text(int n) {
        int many = plain.canForetell(n) ? n : -1;
        due("text(" + many + ")", x.text(many), plain.text(many));
    }

    private void tapes() {
        byte[] bite = new byte[20];
        switch (random.nextInt(6)) {
            case 0: text(-1); break;
            case 1: text(plain.taped() + 1); break;
            case 2: text(random.nextInt(plain.taped() + 1)); break;
            case 3:
                random.nextBytes(bite);
                feed(bite);
                break;
            case 4:
                Arrays.fill(bite, (byte) ' ');
                feed(bite);
                break;
            default:
                for (int i = 0; i < 46 && rarely(); i++) {
                    feed(bite);
                }
        }
    }

    // ---- notes

    private void note() {
        int many = rarely() ? 13 : 1;
        for (int i = 0; i < many; i++) {
            due("note()", x.note(), plain.note());
        }
    }

    private void says() {
        int word = chance(rarely() ? -1 : 0, rarely() ? 8 : 7);
        int[] of = plain.model.saying(word);
        due("says(" + word + ", " + of[0] + ", " + of[1] + ")", x.says(word, of[0], of[1]) ? 1 : 0,
                plain.says(word, of[0], of[1]) ? 1 : 0);
    }

    private void told() {
        int notes = plain.size(4);
        int note = notes == 0 || rarely() ? chance(-1, 12) : random.nextInt(notes);
        boolean there = note >= 0 && note < notes;
        int count = there && !rarely() ? plain.likelyCount(note) : chance(-1, 20000);
        due("told(" + note + ", " + count + ")", x.told(note, count), plain.told(note, count));
    }

    private void askNotes() {
        PlainModel model = plain.model;
        int notes = model.notes.size();
        int note = notes == 0 || rarely() ? chance(-1, 12) : random.nextInt(notes);
        int what = rarely() ? chance(-1, 3) : chance(0, 2);
        boolean there = note >= 0 && note < notes && what >= 0 && what <= 2;
        switch (random.nextInt(3)) {
            case 0:
                due("alone(" + note + ", " + what + ")", x.alone(note, what), there ? model.alone(note)[what] : -1);
                break;
            case 1:
                due("fits(" + note + ", " + what + ")", x.fits(note, what), there ? model.fits(note)[what] : -1);
                break;
            default:
                due("gap()", x.gap(), model.gap());
        }
    }

    // ---- what a text tells

    private void askState() {
        int what = chance(-1, 9);
        int number = chance(-1, 6);
        switch (random.nextInt(4)) {
            case 0: due("fault(" + (what - 4) + ")", x.fault(what - 4), plain.fault(what - 4)); break;
            case 1:
                int kind = chance(-1, 5);
                int letters = Check.letters("" + "lfpdnq".charAt(Math.max(0, kind)) + (char) ('a' + Math.max(0, number)));
                due("named(" + kind + ", " + letters + ")", x.named(kind, letters), plain.named(kind, letters));
                break;
            case 2: look(chance(-1, 4), chance(-1, 3)); break;
            default: due("size(" + what + ")", x.size(what), plain.size(what));
        }
    }

    /** What is thrown stands as -77 for an index, -78 for an element. */
    private void look(int land, int what) {
        long want = land < 0 || land >= plain.size(0) ? -77 : what < 0 || what > 2 ? -78
                : plain.model.lands.get(land)[what];
        long got;
        try {
            got = x.look(land, what);
        } catch (IndexOutOfBoundsException e) {
            got = -77;
        } catch (NoSuchElementException e) {
            got = -78;
        }
        due("look(" + land + ", " + what + ")", got, want);
    }

    private int one(int kind) {
        int there = plain.size(kind);
        return there == 0 || rarely() ? chance(-1, 6) : random.nextInt(there);
    }

    private boolean has(int kind, int number) {
        return number >= 0 && number < plain.size(kind);
    }

    private int someCount() {
        return rarely() ? -1 : random.nextBoolean() ? chance(0, 400) : chance(0, 22000);
    }

    private void askLand() {
        PlainModel model = plain.model;
        int land = one(0);
        boolean there = has(0, land);
        int count = someCount();
        boolean counted = there && count >= 0;
        int year = chance(0, 60);
        int n = chance(1, 99);
        String of = "(" + land + ", ";
        switch (random.nextInt(9)) {
            case 0:
                due("length" + of + year + ")", x.length(land, year), there ? model.length(land, year) : -1);
                break;
            case 1:
                boolean dated = counted && model.years[land][count] > 0;
                due("date" + of + count + ", 0)", x.date(land, count, 0), dated ? model.years[land][count] : -1);
                due("date" + of + count + ", 1)", x.date(land, count, 1), dated ? model.days[land][count] : -1);
                break;
            case 2:
                int then = counted ? model.years[land][count] : 0;
                int day = then > 0 ? model.days[land][count] : 1;
                due("count" + of + then + ", " + day + ")", x.count(land, then, day), then > 0 ? count : -1);
                break;
            case 3:
                long often = there && year > 0 ? model.often(land, year, year + n, n) : -1;
                due("often" + of + year + ", " + (year + n) + ", " + n + ")", x.often(land, year, year + n, n), often);
                break;
            case 4: springs(land, year, there); break;
            case 5:
                due("ends" + of + count + ", " + n + ")", x.ends(land, count, n), counted ? model.ends(land, count, n) : -1);
                break;
            case 6:
                due("hire" + of + count + ", " + year + ", " + n + ")", x.hire(land, count, year, n),
                        counted ? model.hire(land, count, year, n) : -1);
                break;
            case 7:
                due("parts" + of + year + ", 0)", x.parts(land, year, 0), there ? model.parts(land, year, 0) : -1);
                due("parts" + of + year + ", 1)", x.parts(land, year, 1), there ? model.parts(land, year, 1) : -1);
                break;
            default:
                due("months" + of + year + ", " + n + ")", x.months(land, year, n),
                        there ? model.months(land, year, n) : -1);
        }
    }

    private void springs(int land, int year, boolean there) {
        long springs = there ? plain.model.springs(land, year) : -1;
        if (springs != -3) {
            due("springs(" + land + ", " + year + ")", x.springs(land, year), springs);
        }
        int n = chance(-1, 3);
        long many = there && n >= 0 ? plain.model.many(land, year, n) : -1;
        if (many != -3) {
            due("many(" + land + ", " + year + ", " + n + ")", x.many(land, year, n), many);
        }
    }

    private void askOthers() {
        switch (random.nextInt(6)) {
            case 0: askSky(); break;
            case 1: askFeast(); break;
            case 2: askPerson(); break;
            case 3: askDeed(); break;
            default: askFirst();
        }
    }

    private void askSky() {
        int count = someCount();
        int what = chance(0, 3);
        PlainModel model = plain.model;
        int[] want = count < 0 ? new int[] {-1, -1, -1, -1}
                : new int[] {model.weekDay(count), model.moonOf(count), model.seasonOf(count), -1};
        due("round(" + count + ", " + what + ")", x.round(count, what), want[what]);
    }

    private void askFeast() {
        int feast = one(1);
        int count = someCount();
        String of = "(" + feast + ", " + count + ")";
        boolean there = has(1, feast) && count >= 0;
        Long value = there ? plain.model.value(plain.model.feasts.get(feast), count) : null;
        due("rule" + of, x.rule(feast, count), value == null ? Long.MIN_VALUE : value);
        due("feast" + of, x.feast(feast, count), !there ? -1 : value == null || value == 0 ? 0 : 1);
        due("festive" + of, x.festive(feast, count), there ? plain.model.festive(feast, count) : -1);
    }

    private void askPerson() {
        int person = one(2);
        int other = one(2);
        int land = one(0);
        int count = someCount();
        List<int[]> people = plain.model.people;
        boolean there = has(2, person);
        for (int what = 0; what <= 1; what++) {
            due("life(" + person + ", " + what + ")", x.life(person, what), there ? people.get(person)[what] : -1);
        }
        due("age(" + person + ", " + count + ", " + land + ")", x.age(person, count, land),
                there && has(0, land) && count >= 0 ? plain.model.age(person, count, land) : -1);
        boolean both = there && has(2, other);
        due("elder(" + person + ", " + other + ")", x.elder(person, other),
                !both ? -1 : people.get(other)[0] < people.get(person)[0] ? other : person);
    }

    private void askDeed() {
        int deed = one(3);
        int land = one(0);
        for (int what = 0; what <= 2; what++) {
            long want = has(3, deed) && has(0, land) ? plain.model.deed(deed, land, what) : -1;
            // beyond the model's table
            if (want != Long.MAX_VALUE) {
                due("deed(" + deed + ", " + land + ", " + what + ")", x.deed(deed, land, what), want);
            }
        }
    }

    private void askFirst() {
        int count = someCount();
        int day = random.nextBoolean() ? -1 : chance(1, 60);
        int week = random.nextBoolean() ? -1 : chance(0, 7);
        int moon = random.nextBoolean() ? -1 : chance(0, 8);
        boolean can = count >= 0 && week < plain.size(6) && moon < 8;
        due("next(" + count + ", " + day + ", " + week + ", " + moon + ")", x.next(count, day, week, moon),
                can ? plain.model.next(count, day, week, moon) : -1);
        int one = one(0);
        int other = one(0);
        boolean year = random.nextBoolean();
        can = count >= 0 && has(0, one) && has(0, other);
        due("alike(" + one + ", " + other + ", " + count + ", " + year + ")", x.alike(one, other, count, year),
                can ? plain.model.alike(one, other, count, year) : -1);
    }
}
