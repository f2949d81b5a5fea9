import java.util.Arrays;
import java.util.NoSuchElementException;

/** Lands whose years grow or shrink, with their sky, feasts, people, deeds and notes, all told as a text. */
public final class LongYears {
    public static final int NONE = -1;
    public static final int SPENT = -2;

    private static final long LAST_COUNT = 1000000000000L;
    private static final long LAST_YEAR = 1000000000L;
    private static final int GONE_THROUGH = 20000;
    private static final int YEARS_GONE_THROUGH = 1000;
    private static final int MOST_DAYS = 99999;
    private static final int TAPE_MOST = 900;
    private static final int TAPE_BITE = 20;
    private static final int NOTES_MOST = 12;
    private static final int TOLD_MOST = 20;
    private static final int TOO_FEW = -2;

    // the kinds of things that have names
    private static final int LANDS = 0;
    private static final int FEASTS = 1;
    private static final int PEOPLE = 2;
    private static final int DEEDS = 3;
    private static final int NOTES = 4;
    private static final int KINDS = 5;
    private static final int[] MOST_OF_KIND = {4, 4, 6, 4, 6};

    // what a note can say
    private static final int SAYS_YEAR = 0;
    private static final int SAYS_DAY = 1;
    private static final int SAYS_WEEK = 2;
    private static final int SAYS_MOON = 3;
    private static final int SAYS_SEASON = 4;
    private static final int SAYS_ALIVE = 5;
    private static final int SAYS_FEAST = 6;
    private static final int SAYS_AFTER = 7;
    private static final int SAYINGS = 8;
    private static final int[] LEAST_SAID = {1, 1, 0, 0, 0};
    private static final int[] MOST_SAID = {9999, 99999, 99999, 7, 3};
    private static final int AFTER_MOST = 9999;

    // the terms of deeds
    private static final int TERM_YEARS = 0;
    private static final int TERM_DAYS = 1;
    private static final int TERM_FEAST = 2;

    // the tokens: words of the language first, in the order of Lexer.WORDS
    private static final int T_LAND = 0;
    private static final int T_FROM = 1;
    private static final int T_WEEK = 2;
    private static final int T_MOON = 3;
    private static final int T_SUN = 4;
    private static final int T_FEAST = 5;
    private static final int T_PERSON = 6;
    private static final int T_DIED = 7;
    private static final int T_DEED = 8;
    private static final int T_YEARS = 9;
    private static final int T_DAYS = 10;
    private static final int T_TILL = 11;
    private static final int T_PAY = 12;
    private static final int T_NOTE = 13;
    private static final int T_YEAR = 14;
    private static final int T_DAY = 15;
    private static final int T_SEASON = 16;
    private static final int T_ALIVE = 17;
    private static final int T_AFTER = 18;
    private static final int T_OR = 19;
    private static final int T_AND = 20;
    private static final int T_NOT = 21;
    private static final int T_LENGTH = 22;
    private static final int T_NAME = 23;
    private static final int T_NUMBER = 24;
    private static final int T_END_OF_LINE = 25;
    private static final int T_OPEN = 26;
    private static final int T_CLOSE = 27;
    private static final int T_PLUS = 28;
    private static final int T_MINUS = 29;
    private static final int T_TIMES = 30;
    private static final int T_OVER = 31;
    private static final int T_REST = 32;
    private static final int T_LESS = 33;
    private static final int T_AT_MOST = 34;
    private static final int T_SAME = 35;
    private static final int T_OTHER = 36;
    private static final int T_AT_LEAST = 37;
    private static final int T_MORE = 38;
    private static final int T_BAD = 39;
    private static final int T_END = 40;

    private static final int STEP_NOTE = SAYINGS;
    private static final int STEPS_MOST = NOTES_MOST * (SAYINGS + 1);

    private final Parser parser = new Parser();
    private Book book = new Book();
    private Book spare = new Book();
    private final NoteDays days = new NoteDays();
    private final Ledger ledger = new Ledger();
    private final int[] steps = new int[STEPS_MOST];
    private int stepCount;
    private final Notes imageNotes = new Notes();
    private final Ledger imageLedger = new Ledger();
    private boolean imageKept;
    private final Moment moment = new Moment();
    private final Moment otherMoment = new Moment();
    private final Wish wish = new Wish();

    public LongYears() {
    }

    // ---- the text

    public int feed(int a, int b, int c, int d, int e) {
        Lexer tape = parser.lexer;
        if (tape.filled + TAPE_BITE > TAPE_MOST) {
            return NONE;
        }
        tape.putFour(a);
        tape.putFour(b);
        tape.putFour(c);
        tape.putFour(d);
        tape.putFour(e);
        return tape.filled;
    }

    public int text(int n) {
        if (n < 0 || n > parser.lexer.filled) {
            return TOO_FEW;
        }
        int lines = parser.read(spare, n);
        if (lines == NONE) {
            return NONE;
        }
        Book old = book;
        book = spare;
        spare = old;
        days.staleFrom(0);
        stepCount = 0;
        ledger.size = 0;
        imageKept = false;
        return lines;
    }

    public int fault(int what) {
        if (what == 0) {
            return parser.fault;
        }
        return what == 1 ? parser.faultPlace : NONE;
    }

    public int named(int what, int letters) {
        return book.find(what, letters);
    }

    // ---- lands and dates

    public int look(int land, int what) throws IndexOutOfBoundsException, NoSuchElementException {
        Land of = book.landAt(land);
        if (of == null) {
            throw new IndexOutOfBoundsException("no such land");
        }
        switch (what) {
            case 0: return of.first;
            case 1: return of.growth;
            case 2: return of.from;
            default: throw new NoSuchElementException("no such what");
        }
    }

    public long length(int land, int year) {
        Land of = book.landAt(land);
        if (of == null || !of.canBeAsked(year)) {
            return NONE;
        }
        return of.lengthOf(year);
    }

    public long date(int land, long count, int what) {
        Land of = book.landAt(land);
        if (of == null || !isCount(count) || what < 0 || what > 1) {
            return NONE;
        }
        long year = of.yearOf(count);
        if (year == 0) {
            return NONE;
        }
        return what == 0 ? year : count - of.beginOf(year) + 1;
    }

    public long count(int land, int year, long day) {
        Land of = book.landAt(land);
        if (of == null || !of.canBeAsked(year)) {
            return NONE;
        }
        return of.countOf(year, day);
    }

    public int round(long count, int what) {
        if (!isCount(count)) {
            return NONE;
        }
        switch (what) {
            case 0: return book.sky.weekDayOf(count);
            case 1: return book.sky.moonOf(count);
            case 2: return book.sky.seasonOf(count);
            default: return NONE;
        }
    }

    // ---- feasts

    public int feast(int feast, long count) {
        if (!book.has(FEASTS, feast) || !isCount(count)) {
            return NONE;
        }
        moment.seek(book.landAt(0), count);
        return book.rules.isFeast(feast, moment, book.sky) ? 1 : 0;
    }

    public long festive(int feast, long count) {
        if (!book.has(FEASTS, feast) || !isCount(count)) {
            return NONE;
        }
        wish.clear();
        wish.feast = feast;
        return firstMet(count);
    }

    /** The first count from one on, of those gone through, on which the wish is met. */
    private long firstMet(long from) {
        moment.seek(book.landAt(0), from);
        for (int i = 0; i < GONE_THROUGH && moment.count <= LAST_COUNT; i++) {
            if (wish.isMet(moment, book)) {
                return moment.count;
            }
            moment.step();
        }
        return SPENT;
    }

    public long rule(int feast, long count) {
        if (!book.has(FEASTS, feast) || !isCount(count)) {
            return Rules.ERROR;
        }
        moment.seek(book.landAt(0), count);
        return book.rules.valueOf(feast, moment, book.sky);
    }

    // ---- people

    public long life(int person, int what) {
        if (!book.has(PEOPLE, person) || what < 0 || what > 1) {
            return NONE;
        }
        return what == 0 ? book.born[person] : book.died[person];
    }

    public long age(int person, long count, int land) {
        Land by = book.landAt(land);
        if (by == null || !book.has(PEOPLE, person) || !isCount(count) || count < book.born[person]) {
            return NONE;
        }
        return by.yearsKept(book.born[person], count);
    }

    public int elder(int one, int other) {
        if (!book.has(PEOPLE, one) || !book.has(PEOPLE, other)) {
            return NONE;
        }
        return book.born[other] < book.born[one] ? other : one;
    }

    public long often(int land, int a, int b, long number) {
        Land of = book.landAt(land);
        if (of == null || a < 1 || b > LAST_YEAR || a > b || number < 1) {
            return NONE;
        }
        return of.yearsWithDay(a, b, number);
    }

    // ---- springs

    public long springs(int land, int year) {
        Land of = book.landAt(land);
        if (of == null || !of.canBeAsked(year) || of.beginOf(year) > LAST_COUNT) {
            return NONE;
        }
        return springsIn(of, year);
    }

    private long springsIn(Land land, long year) {
        long begin = land.beginOf(year);
        return book.sky.springsBy(begin + land.lengthOf(year) - 1) - book.sky.springsBy(begin - 1);
    }

    public int many(int land, int year, int n) {
        Land of = book.landAt(land);
        if (of == null || !of.canBeAsked(year) || n < 0 || n > 99) {
            return NONE;
        }
        for (int i = 0; i < YEARS_GONE_THROUGH; i++) {
            long then = (long) year + i;
            if (!of.canBeAsked(then) || of.beginOf(then) > LAST_COUNT) {
                return SPENT;
            }
            if (springsIn(of, then) == n) {
                return (int) then;
            }
        }
        return SPENT;
    }

    // ---- days that are several things at once

    public long next(long count, int day, int week, int moon) {
        boolean dayAsked = day == NONE || day >= 1 && day <= MOST_DAYS;
        boolean weekAsked = week == NONE || week >= 0 && week < book.sky.weekDays;
        boolean moonAsked = moon == NONE || moon >= 0 && moon <= 7;
        if (!isCount(count) || !dayAsked || !weekAsked || !moonAsked) {
            return NONE;
        }
        wish.clear();
        wish.day = day;
        wish.week = week;
        wish.moon = moon;
        return firstMet(count);
    }

    public long alike(int one, int other, long count, boolean year) {
        if (one == other || book.landAt(one) == null || book.landAt(other) == null || !isCount(count)) {
            return NONE;
        }
        moment.seek(book.landAt(one), count);
        otherMoment.seek(book.landAt(other), count);
        for (int i = 0; i < GONE_THROUGH && moment.count <= LAST_COUNT; i++) {
            if (moment.day > 0 && moment.day == otherMoment.day && (!year || moment.year == otherMoment.year)) {
                return moment.count;
            }
            moment.step();
            otherMoment.step();
        }
        return SPENT;
    }

    // ---- deeds and hire

    public long deed(int deed, int land, int what) {
        Land by = book.landAt(land);
        if (by == null || !book.has(DEEDS, deed) || what < 0 || what > 2) {
            return NONE;
        }
        long at = book.deedAt[deed];
        if (by.yearOf(at) == 0) {
            return NONE;
        }
        if (what == 0) {
            return at;
        }
        long due = dueOf(deed, by);
        if (due < 0 || what == 1) {
            return due;
        }
        return (by.endedBy(due) - by.endedBy(at)) * book.deedPay[deed];
    }

    private long dueOf(int deed, Land by) {
        long at = book.deedAt[deed];
        int term = book.deedTerm[deed];
        switch (book.deedKind[deed]) {
            case TERM_YEARS: return by.yearsLater(at, term);
            case TERM_DAYS: return at + term > LAST_COUNT ? NONE : at + term;
            default:
                wish.clear();
                wish.feast = term;
                return firstMet(at + 1);
        }
    }

    public int ends(int land, long count, int m) {
        Land of = book.landAt(land);
        if (of == null || !isCount(count) || m < 1 || m > MOST_DAYS || count + m > LAST_COUNT) {
            return NONE;
        }
        return (int) (of.endedBy(count + m) - of.endedBy(count));
    }

    public long hire(int land, long a, int n, int m) {
        Land of = book.landAt(land);
        if (of == null || !isCount(a) || n < 0 || n > 999 || m < 1 || m > MOST_DAYS || a + n + m > LAST_COUNT) {
            return NONE;
        }
        long best = a;
        long most = -1;
        for (int i = 0; i <= n; i++) {
            long ended = of.endedBy(a + i + m) - of.endedBy(a + i);
            if (ended > most) {
                most = ended;
                best = a + i;
            }
        }
        return best;
    }

    // ---- months

    public int parts(int land, int year, int what) {
        Land of = book.landAt(land);
        if (of == null || !of.canBeAsked(year) || what < 0 || what > 1) {
            return NONE;
        }
        long length = of.lengthOf(year);
        int numbers = 0;
        int greatest = 0;
        for (int by = 1; by <= 99; by++) {
            if (length % by == 0) {
                numbers++;
                greatest = by;
            }
        }
        return what == 0 ? numbers : greatest;
    }

    public int months(int land, int year, int n) {
        Land of = book.landAt(land);
        if (of == null || !of.canBeAsked(year) || n < 1 || n > 99) {
            return NONE;
        }
        for (int i = 0; i < YEARS_GONE_THROUGH; i++) {
            long then = (long) year + i;
            if (!of.canBeAsked(then)) {
                return SPENT;
            }
            if (of.lengthOf(then) % n == 0) {
                return (int) then;
            }
        }
        return SPENT;
    }

    // ---- notes

    public int note() {
        Notes notes = book.notes;
        if (notes.size >= NOTES_MOST || stepCount >= steps.length) {
            return NONE;
        }
        int number = notes.size;
        notes.begin(number);
        notes.size++;
        days.staleFrom(number);
        steps[stepCount] = STEP_NOTE;
        stepCount++;
        return number;
    }

    public boolean says(int word, int a, int b) {
        Notes notes = book.notes;
        int last = notes.size - 1;
        if (word < 0 || word >= SAYINGS || last < 0 || stepCount >= steps.length) {
            return false;
        }
        if (notes.does(last, word) || !canBeSaid(word, a, b, last)) {
            return false;
        }
        notes.add(last, word, a, b);
        days.staleFrom(last);
        steps[stepCount] = word;
        stepCount++;
        return true;
    }

    private boolean canBeSaid(int word, int a, int b, int note) {
        switch (word) {
            case SAYS_ALIVE: return book.has(PEOPLE, a);
            case SAYS_FEAST: return book.has(FEASTS, a);
            case SAYS_AFTER: return a >= 0 && a < note && b >= -AFTER_MOST && b <= AFTER_MOST;
            default: break;
        }
        if (word < 0 || word >= LEAST_SAID.length || a < LEAST_SAID[word] || a > MOST_SAID[word]) {
            return false;
        }
        return word != SAYS_YEAR || b >= a && b <= MOST_SAID[word];
    }

    public int undo() {
        Notes notes = book.notes;
        if (stepCount < 1 || notes.size < 1) {
            return NONE;
        }
        stepCount--;
        int last = notes.size - 1;
        if (steps[stepCount] == STEP_NOTE) {
            notes.size = last;
        } else {
            notes.drop(last, steps[stepCount]);
        }
        days.staleFrom(last);
        return stepCount;
    }

    public int alone(int note, int what) {
        if (note < 0 || note >= book.notes.size || what < 0 || what > 2) {
            return NONE;
        }
        days.refresh(book);
        return days.tellAlone(book.notes, note, what);
    }

    public int fits(int note, int what) {
        if (note < 0 || note >= book.notes.size || what < 0 || what > 2) {
            return NONE;
        }
        days.refresh(book);
        return days.tellTogether(book.notes, note, what);
    }

    public int gap() {
        days.refresh(book);
        return days.leastGap(book.notes);
    }

    // ---- counts told for notes

    public int told(int note, int count) {
        if (note < 0 || note >= book.notes.size || count < 0 || count >= GONE_THROUGH || ledger.size >= TOLD_MOST) {
            return NONE;
        }
        ledger.add(note, count);
        return ledger.size;
    }

    public int judged() {
        days.refresh(book);
        for (int row = 0; row < ledger.size; row++) {
            if (!canBeTold(row)) {
                return row;
            }
        }
        return ledger.size;
    }

    private boolean canBeTold(int row) {
        Notes notes = book.notes;
        int note = ledger.notes[row];
        int count = ledger.counts[row];
        if (note >= notes.size || !days.isOn(note, count)) {
            return false;
        }
        if (!notes.does(note, SAYS_AFTER)) {
            return true;
        }
        int ahead = ledger.latestAhead(notes.firstOf(note, SAYS_AFTER), row);
        return ahead == NONE || count == ahead + notes.secondOf(note, SAYS_AFTER);
    }

    public int forget() {
        int were = ledger.size;
        ledger.size = 0;
        return were;
    }

    // ---- images

    public int keep() {
        imageNotes.copy(book.notes);
        imageLedger.copy(ledger);
        imageKept = true;
        return imageNotes.size;
    }

    public int back() {
        if (!imageKept) {
            return NONE;
        }
        book.notes.copy(imageNotes);
        ledger.copy(imageLedger);
        days.staleFrom(0);
        stepCount = 0;
        return imageNotes.size;
    }

    public int size(int what) {
        switch (what) {
            case LANDS:
            case FEASTS:
            case PEOPLE:
            case DEEDS: return book.told[what];
            case NOTES: return book.notes.size;
            case 5: return book.rules.knots;
            case 6: return book.sky.weekDays;
            case 7: return ledger.size;
            case 8: return stepCount;
            default: return NONE;
        }
    }

    // ---- helpers that need no object

    private static boolean isCount(long count) {
        return count >= 0 && count <= LAST_COUNT;
    }

    private static long cut(long number, long by) {
        return by < 1 ? 0 : number / by;
    }

    /** A land: its first year's length, by how much each next one is longer, the count at which it begins. */
    private static final class Land {
        // with a growth of 1 at least, this year begins behind the last count, and the products up to it are small
        private static final long YEARS_THAT_MATTER = 1500000L;
        private static final long FAR = 4 * LAST_COUNT;
        private static final int HALVINGS = 64;

        int first = 1;
        int growth;
        int from;

        boolean isThere(long year) {
            return year >= 1 && lengthOf(year) >= 1;
        }

        boolean canBeAsked(long year) {
            return year <= LAST_YEAR && isThere(year);
        }

        long lengthOf(long year) {
            return first + (year - 1) * growth;
        }

        /** The count of the first day of a year that is there; FAR where it would be too great to work out. */
        long beginOf(long year) {
            long gone = year - 1;
            if (growth == 0) {
                return from + gone * first;
            }
            if (gone > YEARS_THAT_MATTER) {
                return FAR;
            }
            return from + gone * first + growth * (gone * (gone - 1) / 2);
        }

        /** The last year of a land whose years shrink. */
        long lastYear() {
            return cut(first - 1, -growth) + 1;
        }

        /** The year of a count; 0 if the land has no date of it. */
        long yearOf(long count) {
            if (count < from) {
                return 0;
            }
            if (growth == 0) {
                return cut(count - from, first) + 1;
            }
            long low = 1;
            long high = growth > 0 ? YEARS_THAT_MATTER : lastYear();
            if (growth < 0 && count >= beginOf(high) + lengthOf(high)) {
                return 0;
            }
            for (int i = 0; i < HALVINGS && low < high; i++) {
                long middle = (low + high + 1) / 2;
                if (beginOf(middle) <= count) {
                    low = middle;
                } else {
                    high = middle - 1;
                }
            }
            return low;
        }

        /** The count of a day of a year that is there; NONE without such a day or beyond the last count. */
        long countOf(long year, long day) {
            if (day < 1 || day > lengthOf(year)) {
                return NONE;
            }
            long count = beginOf(year) + day - 1;
            return count > LAST_COUNT ? NONE : count;
        }

        /** How many years have had their last day by a count. */
        long endedBy(long count) {
            if (count + 1 < from) {
                return 0;
            }
            long running = yearOf(count + 1);
            return running == 0 ? lastYear() : running - 1;
        }

        /** The age by this land, of one born on a count that is not behind the other one. */
        long yearsKept(long born, long count) {
            long birthYear = yearOf(born);
            if (birthYear == 0) {
                return NONE;
            }
            long day = born - beginOf(birthYear) + 1;
            long year = yearOf(count);
            if (year == 0) {
                year = lastYear();
            } else if (count - beginOf(year) + 1 < day) {
                year--;
            }
            if (growth < 0) {
                year = Math.min(year, cut(first - day, -growth) + 1);
            }
            return Math.max(0, year - birthYear);
        }

        long yearsWithDay(long a, long b, long day) {
            // no year that can be asked is as long as that; below it nothing overflows
            if (day > LAST_COUNT) {
                return 0;
            }
            long begin = a;
            long end = b;
            if (growth > 0 && day > first) {
                begin = Math.max(a, cut(day - first - 1, growth) + 2);
            } else if (growth < 0 && day <= first) {
                end = Math.min(b, cut(first - day, -growth) + 1);
            } else if (day > first) {
                return 0;
            }
            return Math.max(0, end - begin + 1);
        }

        /** The same day so many years later, or the first one behind a year without it; NONE without such a year. */
        long yearsLater(long count, int years) {
            long year = yearOf(count);
            long then = year + years;
            if (year == 0 || !isThere(then)) {
                return NONE;
            }
            long day = count - beginOf(year) + 1;
            if (day <= lengthOf(then)) {
                return countOf(then, day);
            }
            return isThere(then + 1) ? countOf(then + 1, 1) : NONE;
        }
    }

    /** The week, the moon and the sun. */
    private static final class Sky {
        int weekDays;
        int weekFirst;
        int moonParts;
        int moonBy;
        int moonOver;
        int sunParts;
        int sunBy;

        void clear() {
            weekDays = 7;
            weekFirst = 0;
            moonParts = 59;
            moonBy = 2;
            moonOver = 0;
            sunParts = 1461;
            sunBy = 4;
        }

        int weekDayOf(long count) {
            return weekDays < 1 ? 0 : (int) ((count + weekFirst) % weekDays);
        }

        int moonOf(long count) {
            return moonParts < 1 ? 0 : (int) ((count * moonBy + moonOver) % moonParts * 8 / moonParts);
        }

        int seasonOf(long count) {
            return sunParts < 1 ? 0 : (int) (count * sunBy % sunParts * 4 / sunParts);
        }

        /** How many springs have begun by a count. */
        long springsBy(long count) {
            return count < 0 ? 0 : cut(count * sunBy, sunParts) + 1;
        }
    }

    /** A count with its date by one land (0 without), which goes on day by day without working it out anew. */
    private static final class Moment {
        Land land;
        long count;
        long year;
        long day;
        long length;

        void seek(Land by, long start) {
            land = by;
            count = start;
            year = by == null ? 0 : by.yearOf(start);
            day = 0;
            length = 0;
            if (by != null && year > 0) {
                day = start - by.beginOf(year) + 1;
                length = by.lengthOf(year);
            }
        }

        void step() {
            count++;
            if (land == null) {
                return;
            }
            if (year > 0) {
                day++;
                if (day > length) {
                    beginYear(year + 1);
                }
            } else if (count == land.from) {
                beginYear(1);
            }
        }

        private void beginYear(long next) {
            boolean there = land != null && land.isThere(next);
            year = there ? next : 0;
            day = there ? 1 : 0;
            length = there ? land.lengthOf(next) : 0;
        }
    }

    /** The rules of all feasts, each a row of knots that work on a stack. */
    private static final class Rules {
        static final long ERROR = Long.MIN_VALUE;
        static final int KNOTS_MOST = 64;
        static final int NUMBER_MOST = 9999;

        // a number stands as itself, all other knots below 0
        private final int[] code = new int[KNOTS_MOST];
        private int codeSize;
        private final int[] ends = new int[MOST_OF_KIND[FEASTS]];
        private final long[] stack = new long[KNOTS_MOST];
        int knots;

        void clear() {
            codeSize = 0;
            knots = 0;
            Arrays.fill(ends, 0);
        }

        static int knotOf(int token) {
            return -1 - token;
        }

        void put(int knot) {
            if (codeSize < code.length) {
                code[codeSize] = knot;
                codeSize++;
            }
        }

        void endRule(int feast) {
            if (feast >= 0 && feast < ends.length) {
                ends[feast] = codeSize;
            }
        }

        boolean isFeast(int feast, Moment at, Sky sky) {
            long value = valueOf(feast, at, sky);
            return value != 0 && value != ERROR;
        }

        long valueOf(int feast, Moment at, Sky sky) {
            if (feast < 0 || feast >= ends.length) {
                return ERROR;
            }
            int top = 0;
            int start = feast == 0 ? 0 : ends[feast - 1];
            for (int i = start; i < ends[feast] && i < code.length; i++) {
                int token = -1 - code[i];
                int takes = takenBy(token);
                if (top < takes || top - takes >= stack.length) {
                    return ERROR;
                }
                top -= takes;
                long value;
                if (takes == 2) {
                    value = joined(token, stack[top], stack[top + 1]);
                } else if (takes == 1) {
                    value = stack[top] == 0 ? 1 : 0;
                } else {
                    value = token < 0 ? code[i] : nameOf(token, at, sky);
                }
                if (value > LAST_COUNT || value < -LAST_COUNT) {
                    return ERROR;
                }
                stack[top] = value;
                top++;
            }
            return top == 1 ? stack[0] : ERROR;
        }

        private static int takenBy(int token) {
            if (token == T_NOT) {
                return 1;
            }
            return rankOf(token) > 0 ? 2 : 0;
        }

        /** How closely a sign binds; 0 for all that is no sign. */
        static int rankOf(int token) {
            switch (token) {
                case T_OR: return 1;
                case T_AND: return 2;
                case T_NOT: return 3;
                case T_LESS:
                case T_AT_MOST:
                case T_SAME:
                case T_OTHER:
                case T_AT_LEAST:
                case T_MORE: return 4;
                case T_PLUS:
                case T_MINUS: return 5;
                case T_TIMES:
                case T_OVER:
                case T_REST: return 6;
                default: return 0;
            }
        }

        static boolean isName(int token) {
            switch (token) {
                case T_DAY:
                case T_YEAR:
                case T_WEEK:
                case T_MOON:
                case T_SEASON:
                case T_LENGTH: return true;
                default: return false;
            }
        }

        private static long nameOf(int token, Moment at, Sky sky) {
            switch (token) {
                case T_DAY: return at.day;
                case T_YEAR: return at.year;
                case T_LENGTH: return at.length;
                case T_WEEK: return sky.weekDayOf(at.count);
                case T_MOON: return sky.moonOf(at.count);
                case T_SEASON: return sky.seasonOf(at.count);
                default: return ERROR;
            }
        }

        private static long joined(int token, long left, long right) {
            switch (token) {
                case T_PLUS: return left + right;
                case T_MINUS: return left - right;
                case T_TIMES: return product(left, right);
                case T_OVER: return right == 0 ? ERROR : left / right;
                case T_REST: return right == 0 ? ERROR : left % right;
                default: return holds(token, left, right) ? 1 : 0;
            }
        }

        private static boolean holds(int token, long left, long right) {
            switch (token) {
                case T_OR: return left != 0 || right != 0;
                case T_AND: return left != 0 && right != 0;
                case T_LESS: return left < right;
                case T_AT_MOST: return left <= right;
                case T_SAME: return left == right;
                case T_OTHER: return left != right;
                case T_AT_LEAST: return left >= right;
                default: return left > right;
            }
        }

        private static long product(long left, long right) {
            long one = left < 0 ? -left : left;
            long other = right < 0 ? -right : right;
            // looked at ahead of it: a product may wrap round to a small number
            if (one != 0 && other > LAST_COUNT / one) {
                return ERROR;
            }
            return left * right;
        }
    }

    /** What a count is asked to be; NONE for what is not asked. */
    private static final class Wish {
        int day;
        int week;
        int moon;
        int season;
        int feast;

        void clear() {
            day = NONE;
            week = NONE;
            moon = NONE;
            season = NONE;
            feast = NONE;
        }

        boolean isEmpty() {
            return day == NONE && week == NONE && moon == NONE && season == NONE && feast == NONE;
        }

        boolean isMet(Moment at, Book book) {
            return (day == NONE || at.day == day)
                    && (week == NONE || book.sky.weekDayOf(at.count) == week)
                    && (moon == NONE || book.sky.moonOf(at.count) == moon)
                    && (season == NONE || book.sky.seasonOf(at.count) == season)
                    && (feast == NONE || book.rules.isFeast(feast, at, book.sky));
        }
    }

    /** The notes: what each says, by word, with one number or two. */
    private static final class Notes {
        int size;
        private final int[] said = new int[NOTES_MOST];
        private final int[] firsts = new int[NOTES_MOST * SAYINGS];
        private final int[] seconds = new int[NOTES_MOST * SAYINGS];

        void begin(int note) {
            if (note >= 0 && note < said.length) {
                said[note] = 0;
            }
        }

        boolean does(int note, int word) {
            return note >= 0 && note < said.length && (said[note] >> word & 1) == 1;
        }

        void add(int note, int word, int first, int second) {
            int slot = slotOf(note, word);
            if (slot != NONE) {
                said[note] |= 1 << word;
                firsts[slot] = first;
                seconds[slot] = second;
            }
        }

        void drop(int note, int word) {
            if (slotOf(note, word) != NONE) {
                said[note] &= ~(1 << word);
            }
        }

        int firstOf(int note, int word) {
            int slot = slotOf(note, word);
            return slot == NONE ? 0 : firsts[slot];
        }

        int secondOf(int note, int word) {
            int slot = slotOf(note, word);
            return slot == NONE ? 0 : seconds[slot];
        }

        /** The number that a note says with a word; NONE if it does not say it. */
        int askedOf(int note, int word) {
            return does(note, word) ? firstOf(note, word) : NONE;
        }

        private static int slotOf(int note, int word) {
            boolean known = note >= 0 && note < NOTES_MOST && word >= 0 && word < SAYINGS;
            return known ? note * SAYINGS + word : NONE;
        }

        void copy(Notes other) {
            if (other == null) {
                return;
            }
            size = other.size;
            System.arraycopy(other.said, 0, said, 0, said.length);
            System.arraycopy(other.firsts, 0, firsts, 0, firsts.length);
            System.arraycopy(other.seconds, 0, seconds, 0, seconds.length);
        }
    }

    /** The counts told for notes, in their order. */
    private static final class Ledger {
        int size;
        final int[] notes = new int[TOLD_MOST];
        final int[] counts = new int[TOLD_MOST];

        void add(int note, int count) {
            if (size < TOLD_MOST) {
                notes[size] = note;
                counts[size] = count;
                size++;
            }
        }

        /** The latest count told for a note ahead of a row; NONE without one. */
        int latestAhead(int note, int row) {
            for (int i = Math.min(row, TOLD_MOST) - 1; i >= 0; i--) {
                if (notes[i] == note) {
                    return counts[i];
                }
            }
            return NONE;
        }

        void copy(Ledger other) {
            if (other == null) {
                return;
            }
            size = other.size;
            System.arraycopy(other.notes, 0, notes, 0, TOLD_MOST);
            System.arraycopy(other.counts, 0, counts, 0, TOLD_MOST);
        }
    }

    /** All that a text tells. The notes come by call, too. */
    private static final class Book {
        final int[] told = new int[KINDS];
        final int[][] names = new int[KINDS][NOTES_MOST];
        final Land[] lands = new Land[MOST_OF_KIND[LANDS]];
        final Sky sky = new Sky();
        final Rules rules = new Rules();
        final long[] born = new long[MOST_OF_KIND[PEOPLE]];
        final long[] died = new long[MOST_OF_KIND[PEOPLE]];
        final long[] deedAt = new long[MOST_OF_KIND[DEEDS]];
        final int[] deedKind = new int[MOST_OF_KIND[DEEDS]];
        final int[] deedTerm = new int[MOST_OF_KIND[DEEDS]];
        final int[] deedPay = new int[MOST_OF_KIND[DEEDS]];
        final Notes notes = new Notes();

        Book() {
            for (int i = 0; i < lands.length; i++) {
                lands[i] = new Land();
            }
            sky.clear();
        }

        void clear() {
            Arrays.fill(told, 0);
            sky.clear();
            rules.clear();
            notes.size = 0;
        }

        boolean has(int kind, int number) {
            return kind >= 0 && kind < KINDS && number >= 0 && number < told[kind];
        }

        Land landAt(int land) {
            return has(LANDS, land) && land < lands.length ? lands[land] : null;
        }

        int find(int kind, int letters) {
            if (kind < 0 || kind >= KINDS) {
                return NONE;
            }
            for (int i = 0; i < told[kind] && i < names[kind].length; i++) {
                if (names[kind][i] == letters) {
                    return i;
                }
            }
            return NONE;
        }

        /** The first count on which a note can be by its years and by who is alive; beyond all, if on none. */
        long earliestOf(int note) {
            long earliest = 0;
            if (notes.does(note, SAYS_YEAR)) {
                Land land = landAt(0);
                int from = notes.firstOf(note, SAYS_YEAR);
                if (land == null || !land.isThere(from)) {
                    return GONE_THROUGH;
                }
                earliest = land.beginOf(from);
            }
            int person = notes.firstOf(note, SAYS_ALIVE);
            if (notes.does(note, SAYS_ALIVE) && has(PEOPLE, person)) {
                earliest = Math.max(earliest, born[person]);
            }
            return earliest;
        }

        long latestOf(int note) {
            long latest = GONE_THROUGH - 1;
            Land land = landAt(0);
            if (notes.does(note, SAYS_YEAR) && land != null) {
                long to = notes.secondOf(note, SAYS_YEAR);
                long year = land.growth < 0 ? Math.min(to, land.lastYear()) : to;
                latest = Math.min(latest, land.beginOf(year) + land.lengthOf(year) - 1);
            }
            int person = notes.firstOf(note, SAYS_ALIVE);
            if (notes.does(note, SAYS_ALIVE) && has(PEOPLE, person) && died[person] != NONE) {
                latest = Math.min(latest, died[person]);
            }
            return latest;
        }
    }

    /** On which counts each note can be, a bit each, and which notes can hold together. */
    private static final class NoteDays {
        private static final int WORDS = (GONE_THROUGH + 63) / 64;

        private final long[][] rows = new long[NOTES_MOST][WORDS];
        // notes 0 .. fresh - 1 have rows that are as they say
        private int fresh;
        // how far behind the first note of its tree each one is, and which note that is
        private final int[] shifts = new int[NOTES_MOST];
        private final int[] tops = new int[NOTES_MOST];
        private final Moment moment = new Moment();
        private final Wish wish = new Wish();

        void staleFrom(int note) {
            fresh = Math.min(fresh, note);
        }

        void refresh(Book book) {
            for (int note = Math.max(0, fresh); note < book.notes.size && note < NOTES_MOST; note++) {
                fill(note, book);
                fresh = note + 1;
            }
        }

        private void fill(int note, Book book) {
            long[] row = rows[note];
            Arrays.fill(row, 0);
            long start = book.earliestOf(note);
            long end = Math.min(book.latestOf(note), GONE_THROUGH - 1);
            if (start < 0 || start > end) {
                return;
            }
            readWish(book.notes, note);
            if (wish.isEmpty()) {
                fillAll(row, (int) start, (int) end);
                return;
            }
            moment.seek(book.landAt(0), start);
            for (int count = (int) start; count <= end && count < GONE_THROUGH; count++) {
                if (wish.isMet(moment, book)) {
                    row[count >> 6] |= 1L << (count & 63);
                }
                moment.step();
            }
        }

        private void readWish(Notes notes, int note) {
            wish.day = notes.askedOf(note, SAYS_DAY);
            wish.week = notes.askedOf(note, SAYS_WEEK);
            wish.moon = notes.askedOf(note, SAYS_MOON);
            wish.season = notes.askedOf(note, SAYS_SEASON);
            wish.feast = notes.askedOf(note, SAYS_FEAST);
        }

        private static void fillAll(long[] row, int start, int end) {
            int first = start >> 6;
            int last = end >> 6;
            if (first < 0 || last >= row.length) {
                return;
            }
            for (int word = first; word <= last; word++) {
                row[word] = -1L;
            }
            row[first] &= -1L << (start & 63);
            row[last] &= -1L >>> (63 - (end & 63));
        }

        boolean isOn(int note, int count) {
            if (note < 0 || note >= NOTES_MOST || count < 0 || count >= GONE_THROUGH) {
                return false;
            }
            return (rows[note][count >> 6] >> (count & 63) & 1) == 1;
        }

        int tellAlone(Notes notes, int note, int what) {
            int mask = 1 << note;
            layOut(notes, mask);
            return tell(mask, 0, what);
        }

        int tellTogether(Notes notes, int note, int what) {
            layOut(notes, (1 << notes.size) - 1);
            if (note < 0 || note >= NOTES_MOST || !allHold(notes.size)) {
                return what == 0 ? 0 : NONE;
            }
            return tell(treeOf(tops[note], notes.size), shifts[note], what);
        }

        /** Puts each note of a set behind the top of its tree: how many trees. An after out of the set binds nothing. */
        private int layOut(Notes notes, int mask) {
            int trees = 0;
            for (int note = 0; note < notes.size && note < NOTES_MOST; note++) {
                if ((mask >> note & 1) == 0) {
                    continue;
                }
                int target = notes.askedOf(note, SAYS_AFTER);
                if (target >= 0 && target < note && (mask >> target & 1) == 1) {
                    tops[note] = tops[target];
                    shifts[note] = shifts[target] + notes.secondOf(note, SAYS_AFTER);
                } else {
                    tops[note] = note;
                    shifts[note] = 0;
                    trees++;
                }
            }
            return trees;
        }

        private int treeOf(int top, int size) {
            int mask = 0;
            for (int note = 0; note < size && note < NOTES_MOST; note++) {
                if (tops[note] == top) {
                    mask |= 1 << note;
                }
            }
            return mask;
        }

        private boolean allHold(int size) {
            for (int note = 0; note < size && note < NOTES_MOST; note++) {
                if (tops[note] == note && !canHold(treeOf(note, size))) {
                    return false;
                }
            }
            return true;
        }

        int leastGap(Notes notes) {
            int all = (1 << notes.size) - 1;
            layOut(notes, all);
            if (allHold(notes.size)) {
                return 0;
            }
            for (int members = 1; members <= notes.size && members <= NOTES_MOST; members++) {
                for (int mask = 1; mask <= all && mask < 1 << NOTES_MOST; mask++) {
                    // several trees: one of them alone would be a gap of fewer
                    if (Integer.bitCount(mask) == members && layOut(notes, mask) == 1 && !canHold(mask)) {
                        return mask;
                    }
                }
            }
            return 0;
        }

        /** Whether the notes of one tree, laid out, can hold together. */
        private boolean canHold(int mask) {
            for (int word = 0; word < WORDS; word++) {
                if (topsIn(mask, word) != 0) {
                    return true;
                }
            }
            return false;
        }

        /** On which of 64 counts the top of a tree can be, so that all its notes hold. */
        private long topsIn(int mask, int word) {
            long bits = -1L;
            for (int note = 0; note < NOTES_MOST && bits != 0; note++) {
                if ((mask >> note & 1) == 1) {
                    bits &= bitsFrom(rows[note], word * 64 + shifts[note]);
                }
            }
            return bits;
        }

        private static long bitsFrom(long[] row, int start) {
            int word = start >> 6;
            int off = start & 63;
            long low = word >= 0 && word < row.length ? row[word] >>> off : 0;
            if (off == 0) {
                return low;
            }
            long high = word + 1 >= 0 && word + 1 < row.length ? row[word + 1] << (64 - off) : 0;
            return low | high;
        }

        private int tell(int mask, int shift, int what) {
            int many = 0;
            int first = NONE;
            int last = NONE;
            for (int word = 0; word < WORDS; word++) {
                long bits = topsIn(mask, word);
                if (bits == 0) {
                    continue;
                }
                many += Long.bitCount(bits);
                if (first == NONE) {
                    first = word * 64 + shift + Long.numberOfTrailingZeros(bits);
                }
                last = word * 64 + shift + 63 - Long.numberOfLeadingZeros(bits);
            }
            if (what == 0) {
                return many;
            }
            return what == 1 ? first : last;
        }
    }

    /** The tape, and the tokens of the text on it, one at a time. */
    private static final class Lexer {
        private static final String WORDS = "land from week moon sun feast person died deed years days till pay note year day season alive after or and not length ";
        private static final int LETTERS_MOST = 6;
        private static final int NUMBER_FAR = 1000000;

        private final byte[] bytes = new byte[TAPE_MOST];
        int filled;
        private final int[] codes = new int[T_LENGTH + 1];
        private int end;
        private int at;
        int token;
        int place;
        int number;
        int letters;

        Lexer() {
            int code = 0;
            int length = 0;
            int word = 0;
            for (int i = 0; i < WORDS.length() && word < codes.length; i++) {
                char sign = WORDS.charAt(i);
                if (sign == ' ') {
                    codes[word] = code << 5 * (LETTERS_MOST - length);
                    word++;
                    code = 0;
                    length = 0;
                } else {
                    code = code << 5 | sign - 'a' + 1;
                    length++;
                }
            }
        }

        void putFour(int four) {
            for (int shift = 24; shift >= 0 && filled < bytes.length; shift -= 8) {
                bytes[filled] = (byte) (four >> shift);
                filled++;
            }
        }

        /** The first bytes are the text; the tape is empty for what comes next. */
        void start(int n) {
            end = Math.min(n, filled);
            filled = 0;
            at = 0;
            advance();
        }

        void advance() {
            while (at < end && (bytes[at] == 10 || bytes[at] == 32)) {
                at++;
            }
            place = at;
            if (at >= end) {
                token = T_END;
                return;
            }
            int sign = bytes[at];
            if (sign >= 'a' && sign <= 'z') {
                readWord();
            } else if (sign >= '0' && sign <= '9') {
                readNumber();
            } else {
                readSign(sign);
            }
        }

        private void readWord() {
            int code = 0;
            for (; at < end && bytes[at] >= 'a' && bytes[at] <= 'z'; at++) {
                if (at - place < LETTERS_MOST) {
                    code = code << 5 | bytes[at] - 'a' + 1;
                }
            }
            if (at - place > LETTERS_MOST) {
                token = T_BAD;
                return;
            }
            letters = code << 5 * (LETTERS_MOST - (at - place));
            token = T_NAME;
            for (int word = 0; word < codes.length; word++) {
                if (codes[word] == letters) {
                    token = word;
                }
            }
        }

        private void readNumber() {
            number = 0;
            for (; at < end && bytes[at] >= '0' && bytes[at] <= '9'; at++) {
                // beyond all limits a number's further digits do not matter
                if (number < NUMBER_FAR) {
                    number = number * 10 + bytes[at] - '0';
                }
            }
            token = T_NUMBER;
        }

        private void readSign(int sign) {
            at++;
            // a 0 is no sign: it joins nothing
            int next = at < end ? bytes[at] : 0;
            switch (sign) {
                case ';': token = T_END_OF_LINE; break;
                case '(': token = T_OPEN; break;
                case ')': token = T_CLOSE; break;
                case '+': token = T_PLUS; break;
                case '-': token = T_MINUS; break;
                case '*': token = T_TIMES; break;
                case '/': token = T_OVER; break;
                case '%': token = T_REST; break;
                case '=': token = T_SAME; break;
                case '<': token = next == '=' ? T_AT_MOST : next == '>' ? T_OTHER : T_LESS; break;
                case '>': token = next == '=' ? T_AT_LEAST : T_MORE; break;
                default: token = T_BAD;
            }
            if (token == T_AT_MOST || token == T_OTHER || token == T_AT_LEAST) {
                at++;
            }
        }
    }

    /** Reads a text into a book, up to its first fault, which ends the reading by an exception. */
    private static final class Parser {
        private static final int FAULT_TOKEN = 1;
        private static final int FAULT_MUCH = 2;
        private static final int FAULT_TWICE = 3;
        private static final int FAULT_UNKNOWN = 4;
        private static final int FAULT_DATE = 5;
        private static final int RANK_NOT = 3;
        private static final int RANK_COMPARE = 4;
        private static final int OPEN_MOST = 8;

        final Lexer lexer = new Lexer();
        private Book book;
        int fault;
        int faultPlace = NONE;
        // week, moon, sun: a bit each that is told
        private int skyTold;
        // signs and brackets of a rule that wait for what is on their right
        private final int[] held = new int[Rules.KNOTS_MOST + OPEN_MOST];
        private final int[] heldRanks = new int[Rules.KNOTS_MOST + OPEN_MOST];
        private int heldSize;
        private int open;

        /** How many lines there are; NONE with a fault. */
        int read(Book into, int n) {
            book = into;
            book.clear();
            skyTold = 0;
            fault = 0;
            faultPlace = NONE;
            lexer.start(n);
            int lines = 0;
            try {
                for (int i = 0; i < TAPE_MOST && lexer.token != T_END; i++) {
                    readLine();
                    lines++;
                }
            } catch (IllegalStateException e) {
                return NONE;
            }
            return lines;
        }

        private void refuse(boolean bad, int what, int where) {
            if (bad) {
                fault = what;
                faultPlace = where;
                throw new IllegalStateException("a fault");
            }
        }

        private void readLine() {
            switch (lexer.token) {
                case T_LAND: readLand(); break;
                case T_WEEK: readWeek(); break;
                case T_MOON: readMoon(); break;
                case T_SUN: readSun(); break;
                case T_FEAST: readFeast(); break;
                case T_PERSON: readPerson(); break;
                case T_DEED: readDeed(); break;
                case T_NOTE: readNote(); break;
                default: refuse(true, FAULT_TOKEN, lexer.place);
            }
            take(T_END_OF_LINE);
        }

        private void readLand() {
            int number = beginNamed(LANDS);
            Land land = book.lands[number];
            land.first = numberIn(1, 9999);
            land.growth = signedUpTo(99);
            land.from = 0;
            if (lexer.token == T_FROM) {
                lexer.advance();
                land.from = numberIn(0, MOST_DAYS);
            }
            book.told[LANDS]++;
        }

        private void readWeek() {
            beginSky(1);
            book.sky.weekDays = numberIn(2, 30);
            book.sky.weekFirst = numberIn(0, book.sky.weekDays - 1);
        }

        private void readMoon() {
            beginSky(2);
            book.sky.moonParts = numberIn(1, 9999);
            book.sky.moonBy = latterParts(book.sky.moonParts);
            book.sky.moonOver = numberIn(0, book.sky.moonParts - 1);
        }

        private void readSun() {
            beginSky(4);
            book.sky.sunParts = numberIn(1, 9999);
            book.sky.sunBy = latterParts(book.sky.sunParts);
        }

        private void beginSky(int bit) {
            refuse((skyTold & bit) != 0, FAULT_TWICE, lexer.place);
            skyTold |= bit;
            lexer.advance();
        }

        private int latterParts(int parts) {
            int where = lexer.place;
            int by = numberIn(1, 99);
            refuse(parts < 8 * by, FAULT_MUCH, where);
            return by;
        }

        private void readPerson() {
            int number = beginNamed(PEOPLE);
            book.born[number] = readDate(0);
            book.died[number] = NONE;
            if (lexer.token == T_DIED) {
                lexer.advance();
                book.died[number] = readDate(book.born[number]);
            }
            book.told[PEOPLE]++;
        }

        /** The count of a year and day by land 0, not ahead of another count. */
        private long readDate(long notAhead) {
            int year = numberIn(0, MOST_DAYS);
            int where = lexer.place;
            int day = numberIn(0, MOST_DAYS);
            Land land = book.landAt(0);
            refuse(land == null || !land.isThere(year), FAULT_DATE, where);
            long count = land == null ? NONE : land.countOf(year, day);
            refuse(count < notAhead, FAULT_DATE, where);
            return count;
        }

        private void readDeed() {
            int number = beginNamed(DEEDS);
            book.deedAt[number] = readDate(0);
            int word = lexer.token;
            refuse(word != T_YEARS && word != T_DAYS && word != T_TILL, FAULT_TOKEN, lexer.place);
            lexer.advance();
            if (word == T_TILL) {
                book.deedKind[number] = TERM_FEAST;
                book.deedTerm[number] = known(FEASTS);
            } else {
                book.deedKind[number] = word == T_YEARS ? TERM_YEARS : TERM_DAYS;
                book.deedTerm[number] = numberIn(0, word == T_YEARS ? 999 : MOST_DAYS);
            }
            take(T_PAY);
            book.deedPay[number] = numberIn(0, 999);
            book.told[DEEDS]++;
        }

        private void readNote() {
            int number = beginNamed(NOTES);
            book.notes.begin(number);
            for (int i = 0; i <= SAYINGS; i++) {
                int word = sayingOf(lexer.token);
                if (word == NONE) {
                    break;
                }
                refuse(book.notes.does(number, word), FAULT_TWICE, lexer.place);
                lexer.advance();
                readSaying(number, word);
            }
            book.told[NOTES]++;
            book.notes.size = book.told[NOTES];
        }

        private void readSaying(int note, int word) {
            int first;
            int second = 0;
            switch (word) {
                case SAYS_ALIVE: first = known(PEOPLE); break;
                case SAYS_FEAST: first = known(FEASTS); break;
                case SAYS_AFTER:
                    first = known(NOTES);
                    second = signedUpTo(AFTER_MOST);
                    break;
                default:
                    first = numberIn(LEAST_SAID[word], MOST_SAID[word]);
                    second = word == SAYS_YEAR ? numberIn(first, MOST_SAID[word]) : 0;
            }
            book.notes.add(note, word, first, second);
        }

        private static int sayingOf(int token) {
            switch (token) {
                case T_YEAR: return SAYS_YEAR;
                case T_DAY: return SAYS_DAY;
                case T_WEEK: return SAYS_WEEK;
                case T_MOON: return SAYS_MOON;
                case T_SEASON: return SAYS_SEASON;
                case T_ALIVE: return SAYS_ALIVE;
                case T_FEAST: return SAYS_FEAST;
                case T_AFTER: return SAYS_AFTER;
                default: return NONE;
            }
        }

        // ---- a feast's rule: what is on the right of a sign is read before the sign is put behind it

        private void readFeast() {
            int number = beginNamed(FEASTS);
            heldSize = 0;
            open = 0;
            boolean partDue = true;
            for (int i = 0; i <= TAPE_MOST; i++) {
                if (partDue) {
                    partDue = readPart();
                } else if (lexer.token == T_CLOSE && open > 0) {
                    close();
                } else if (lexer.token != T_NOT && Rules.rankOf(lexer.token) > 0) {
                    readSign();
                    partDue = true;
                } else {
                    break;
                }
            }
            refuse(partDue || open > 0, FAULT_TOKEN, lexer.place);
            release(1);
            book.rules.endRule(number);
            book.told[FEASTS]++;
        }

        /** Reads what can stand where a part is due; whether one is due still. */
        private boolean readPart() {
            int token = lexer.token;
            boolean stillDue = token == T_OPEN || token == T_NOT;
            boolean notTooLate = token == T_NOT && heldRank() > RANK_NOT;
            refuse(notTooLate || !stillDue && token != T_NUMBER && !Rules.isName(token), FAULT_TOKEN, lexer.place);
            if (token == T_OPEN) {
                refuse(open >= OPEN_MOST, FAULT_MUCH, lexer.place);
                open++;
                hold(token);
            } else if (token == T_NOT) {
                countKnot();
                hold(token);
            } else if (token == T_NUMBER) {
                refuse(lexer.number > Rules.NUMBER_MOST, FAULT_MUCH, lexer.place);
                countKnot();
                book.rules.put(lexer.number);
            } else {
                countKnot();
                book.rules.put(Rules.knotOf(token));
            }
            lexer.advance();
            return stillDue;
        }

        private void readSign() {
            int rank = Rules.rankOf(lexer.token);
            // two comparisons in a row can't stand: the first is not released by the second, but refuses it
            release(rank == RANK_COMPARE ? rank + 1 : rank);
            refuse(rank == RANK_COMPARE && heldRank() == RANK_COMPARE, FAULT_TOKEN, lexer.place);
            countKnot();
            hold(lexer.token);
            lexer.advance();
        }

        private void close() {
            release(1);
            if (heldSize > 0) {
                heldSize--;
            }
            open--;
            lexer.advance();
        }

        private void countKnot() {
            refuse(book.rules.knots >= Rules.KNOTS_MOST, FAULT_MUCH, lexer.place);
            book.rules.knots++;
        }

        private void hold(int token) {
            if (heldSize < held.length) {
                held[heldSize] = token;
                heldRanks[heldSize] = Rules.rankOf(token);
                heldSize++;
            }
        }

        /** The rank of the latest sign held back; 0 for none or a bracket. */
        private int heldRank() {
            return heldSize > 0 && heldSize <= heldRanks.length ? heldRanks[heldSize - 1] : 0;
        }

        private void release(int rank) {
            for (int i = 0; i < held.length && heldRank() >= rank; i++) {
                heldSize--;
                book.rules.put(Rules.knotOf(held[heldSize]));
            }
        }

        // ---- tokens that must come

        private void take(int token) {
            refuse(lexer.token != token, FAULT_TOKEN, lexer.place);
            lexer.advance();
        }

        /** The word of a line and the new name behind it: which number it gets, below the most of its kind. */
        private int beginNamed(int kind) {
            int number = book.told[kind];
            refuse(number >= MOST_OF_KIND[kind], FAULT_MUCH, lexer.place);
            lexer.advance();
            refuse(lexer.token != T_NAME, FAULT_TOKEN, lexer.place);
            refuse(book.find(kind, lexer.letters) != NONE, FAULT_TWICE, lexer.place);
            book.names[kind][number] = lexer.letters;
            lexer.advance();
            return number;
        }

        private int known(int kind) {
            refuse(lexer.token != T_NAME, FAULT_TOKEN, lexer.place);
            int number = book.find(kind, lexer.letters);
            refuse(number == NONE, FAULT_UNKNOWN, lexer.place);
            lexer.advance();
            return number;
        }

        private int numberIn(int least, int most) {
            refuse(lexer.token != T_NUMBER, FAULT_TOKEN, lexer.place);
            refuse(lexer.number < least || lexer.number > most, FAULT_MUCH, lexer.place);
            int number = lexer.number;
            lexer.advance();
            return number;
        }

        private int signedUpTo(int most) {
            boolean below = lexer.token == T_MINUS;
            if (below) {
                lexer.advance();
            }
            refuse(lexer.token != T_NUMBER, FAULT_TOKEN, lexer.place);
            refuse(lexer.number > most, FAULT_MUCH, lexer.place);
            int number = below ? -lexer.number : lexer.number;
            lexer.advance();
            return number;
        }
    }
}
