import java.util.ArrayList;
import java.util.List;
import java.util.Random;

/** The document once more, in its most literal form: days gone through one by one, trees walked, sets tried out. */
final class PlainModel {
    static final int FAR = 60000;
    static final long LAST = 1000000000000L;
    static final int DAYS = 20000;

    private final Random random;
    final List<int[]> lands = new ArrayList<>();
    final List<Tree> feasts = new ArrayList<>();
    final List<int[]> people = new ArrayList<>();
    final List<int[]> deeds = new ArrayList<>();
    final List<Note> notes = new ArrayList<>();
    int[] week = {7, 0};
    int[] moon = {59, 2, 0};
    int[] sun = {1461, 4};
    final StringBuilder text = new StringBuilder();
    int knots;
    // year and day of each count by each land, 0 without
    int[][] years;
    int[][] days;

    static final class Tree {
        String sign;
        long number;
        Tree left;
        Tree right;

        int size() {
            return 1 + (left == null ? 0 : left.size()) + (right == null ? 0 : right.size());
        }

        public String toString() {
            if (sign.equals("n")) {
                return Long.toString(number);
            }
            if (sign.equals("not")) {
                return "(not " + left + ")";
            }
            return left == null ? sign : "(" + left + " " + sign + " " + right + ")";
        }
    }

    static final class Note {
        final int[][] says = new int[8][];
        boolean[] on;
    }

    /** A text without lines. */
    static PlainModel empty(Random random) {
        return new PlainModel(random, true);
    }

    /** A text of chance. */
    PlainModel(Random random) {
        this(random, false);
        tellLands();
        tellSky();
        tellFeasts();
        tellPeople();
        tellDeeds();
        tellNotes();
    }

    private PlainModel(Random random, boolean withoutLines) {
        this.random = random;
        if (withoutLines) {
            years = new int[0][];
            days = new int[0][];
        }
    }

    private int upTo(int least, int most) {
        return least + random.nextInt(most - least + 1);
    }

    private void tellLands() {
        int many = random.nextInt(12) == 0 ? 0 : upTo(1, 4);
        for (int i = 0; i < many; i++) {
            int growth = random.nextInt(3) == 0 ? 0 : random.nextBoolean() ? upTo(-9, 9) : upTo(-2, 3);
            int first = growth < 0 ? upTo(1, 400) : upTo(1, random.nextBoolean() ? 12 : 400);
            int from = random.nextBoolean() ? 0 : upTo(0, random.nextBoolean() ? 30 : 21000);
            lands.add(new int[] {first, growth, from});
            text.append("land l").append((char) ('a' + i)).append(' ').append(first).append(' ').append(growth);
            if (from > 0 || random.nextInt(4) == 0) {
                text.append(" from ").append(from);
            }
            text.append(';');
        }
        years = new int[many][FAR];
        days = new int[many][FAR];
        for (int i = 0; i < many; i++) {
            walk(i);
        }
    }

    private void walk(int land) {
        int[] told = lands.get(land);
        int year = 1;
        int day = 1;
        for (int count = told[2]; count < FAR; count++) {
            int length = told[0] + (year - 1) * told[1];
            if (length < 1) {
                return;
            }
            years[land][count] = year;
            days[land][count] = day;
            day++;
            if (day > length) {
                day = 1;
                year++;
            }
        }
    }

    long length(int land, long year) {
        long length = lands.get(land)[0] + (year - 1) * lands.get(land)[1];
        return year < 1 || year > 1000000000 || length < 1 ? -1 : length;
    }

    private void tellSky() {
        if (random.nextBoolean()) {
            int many = upTo(2, 30);
            week = new int[] {many, random.nextInt(many)};
            text.append("week ").append(week[0]).append(' ').append(week[1]).append(';');
        }
        if (random.nextBoolean()) {
            int by = upTo(1, random.nextBoolean() ? 4 : 99);
            int parts = upTo(8 * by, random.nextBoolean() ? Math.min(9999, 40 * by) : 9999);
            moon = new int[] {parts, by, random.nextInt(parts)};
            text.append("moon ").append(parts).append(' ').append(by).append(' ').append(moon[2]).append(';');
        }
        if (random.nextBoolean()) {
            int by = upTo(1, random.nextBoolean() ? 4 : 99);
            sun = new int[] {upTo(8 * by, random.nextBoolean() ? Math.min(9999, 40 * by) : 9999), by};
            text.append("sun ").append(sun[0]).append('\n').append(sun[1]).append(';');
        }
    }

    private void tellFeasts() {
        int many = upTo(0, 4);
        for (int i = 0; i < many; i++) {
            Tree tree = tree(3);
            String rule = tree.toString();
            if (knots + tree.size() > 64 || text.length() + rule.length() > 500) {
                continue;
            }
            knots += tree.size();
            text.append("feast f").append((char) ('a' + feasts.size())).append(' ').append(rule).append(';');
            feasts.add(tree);
        }
    }

    private Tree tree(int depth) {
        Tree tree = new Tree();
        int dice = random.nextInt(10);
        if (depth == 0 || dice < 2) {
            if (random.nextInt(5) < 3) {
                tree.sign = "day year week moon season length".split(" ")[random.nextInt(6)];
            } else {
                tree.sign = "n";
                tree.number = random.nextInt(6) == 0 ? upTo(0, 9999) : upTo(0, 9);
            }
            return tree;
        }
        tree.left = tree(depth - 1);
        if (dice == 2) {
            tree.sign = "not";
            return tree;
        }
        tree.sign = "+ - * / % = <> < <= > >= and or = and %".split(" ")[random.nextInt(16)];
        tree.right = tree(depth - 1);
        return tree;
    }

    private int countOfChance() {
        return random.nextBoolean() ? random.nextInt(300) : random.nextInt(20500);
    }

    private int datedCount() {
        for (int i = 0; i < 50; i++) {
            int count = countOfChance();
            if (!lands.isEmpty() && years[0][count] > 0) {
                return count;
            }
        }
        return -1;
    }

    private String dateOf(int count) {
        return " " + years[0][count] + " " + days[0][count];
    }

    private void tellPeople() {
        int many = upTo(0, 3);
        for (int i = 0; i < many; i++) {
            int born = datedCount();
            if (born < 0) {
                continue;
            }
            text.append("person p").append((char) ('a' + people.size())).append(dateOf(born));
            int died = random.nextBoolean() ? -1 : Math.min(FAR - 1, born + upTo(0, 5000));
            if (died >= 0 && years[0][died] > 0) {
                text.append(" died").append(dateOf(died));
            } else {
                died = -1;
            }
            text.append(';');
            people.add(new int[] {born, died});
        }
    }

    private void tellDeeds() {
        int many = upTo(0, 4);
        for (int i = 0; i < many; i++) {
            int at = datedCount();
            if (at < 0) {
                continue;
            }
            text.append("deed d").append((char) ('a' + deeds.size())).append(dateOf(at));
            int kind = random.nextInt(feasts.isEmpty() ? 2 : 3);
            int term = kind == 0 ? upTo(0, random.nextBoolean() ? 5 : 40) : kind == 1 ? upTo(0, 9000)
                    : random.nextInt(feasts.size());
            int pay = upTo(0, 999);
            text.append(kind == 0 ? " years " + term : kind == 1 ? " days " + term : " till f" + (char) ('a' + term));
            text.append(" pay ").append(pay).append(';');
            deeds.add(new int[] {at, kind, term, pay});
        }
    }

    private void tellNotes() {
        int many = upTo(0, 4);
        for (int i = 0; i < many && text.length() < 800; i++) {
            text.append("note n").append((char) ('a' + i));
            Note note = new Note();
            notes.add(note);
            int words = random.nextInt(4);
            for (int j = 0; j < words; j++) {
                int word = random.nextInt(8);
                int[] numbers = saying(word);
                if (note.says[word] == null && canSay(word, numbers[0], numbers[1])) {
                    note.says[word] = numbers;
                    text.append(spelled(word, numbers));
                }
            }
            text.append(';');
        }
    }

    private static String spelled(int word, int[] numbers) {
        String[] words = {"year", "day", "week", "moon", "season", "alive", "feast", "after"};
        String first = Integer.toString(numbers[0]);
        if (word >= 5) {
            first = "pfn".substring(word - 5, word - 4) + (char) ('a' + numbers[0]);
        }
        return " " + words[word] + " " + first + (word == 0 || word == 7 ? " " + numbers[1] : "");
    }

    /** Numbers that a word may say, sometimes wrong ones. */
    int[] saying(int word) {
        switch (word) {
            case 0:
                int from = random.nextBoolean() ? upTo(1, 20) : upTo(1, 400);
                return new int[] {from, from + upTo(-1, 300)};
            case 1: return new int[] {random.nextBoolean() ? upTo(0, 6) : upTo(1, 120), 0};
            case 2: return new int[] {upTo(-1, week[0]), 0};
            case 3: return new int[] {upTo(-1, 8), 0};
            case 4: return new int[] {upTo(-1, 4), 0};
            case 5: return new int[] {upTo(0, 3), 0};
            case 6: return new int[] {upTo(0, 4), 0};
            default: return new int[] {upTo(0, 5), random.nextBoolean() ? upTo(-9, 30) : upTo(-10100, 10100)};
        }
    }

    /** Whether the last note may say this. */
    boolean canSay(int word, int a, int b) {
        switch (word) {
            case 0: return a >= 1 && a <= b && b <= 9999;
            case 1: return a >= 1 && a <= 99999;
            case 2: return a >= 0 && a <= 99999;
            case 3: return a >= 0 && a <= 7;
            case 4: return a >= 0 && a <= 3;
            case 5: return a >= 0 && a < people.size();
            case 6: return a >= 0 && a < feasts.size();
            case 7: return a >= 0 && a < notes.size() - 1 && Math.abs(b) <= 9999;
            default: return false;
        }
    }

    // ---- the sky and feasts

    int weekDay(long count) {
        return (int) ((count + week[1]) % week[0]);
    }

    int moonOf(long count) {
        return (int) ((count * moon[1] + moon[2]) % moon[0] * 8 / moon[0]);
    }

    int seasonOf(long count) {
        return (int) (count * sun[1] % sun[0] * 4 / sun[0]);
    }

    /** Whether a spring begins: a multiple of the sun's length lies behind the day before and not behind this one. */
    boolean isSpring(long count) {
        if (count == 0) {
            return true;
        }
        long k = count * sun[1] / sun[0];
        return k * sun[0] > (count - 1) * sun[1];
    }

    /** The value of a rule; null for an error. */
    Long value(Tree tree, int count) {
        Long value = unbound(tree, count);
        return value == null || Math.abs(value) > LAST ? null : value;
    }

    private Long unbound(Tree tree, int count) {
        switch (tree.sign) {
            case "n": return tree.number;
            case "day": return lands.isEmpty() ? 0L : days[0][count];
            case "year": return lands.isEmpty() ? 0L : years[0][count];
            case "length": return lands.isEmpty() || years[0][count] == 0 ? 0L : length(0, years[0][count]);
            case "week": return (long) weekDay(count);
            case "moon": return (long) moonOf(count);
            case "season": return (long) seasonOf(count);
            default: break;
        }
        Long left = value(tree.left, count);
        if (tree.sign.equals("not")) {
            return left == null ? null : left == 0 ? 1L : 0L;
        }
        Long right = value(tree.right, count);
        if (left == null || right == null) {
            return null;
        }
        long a = left;
        long b = right;
        switch (tree.sign) {
            case "+": return a + b;
            case "-": return a - b;
            case "*": return java.math.BigInteger.valueOf(a).multiply(java.math.BigInteger.valueOf(b)).bitLength() > 60
                    ? null : (Long) (a * b);
            case "/": return b == 0 ? null : (Long) (a / b);
            case "%": return b == 0 ? null : (Long) (a % b);
            case "=": return a == b ? 1L : 0L;
            case "<>": return a != b ? 1L : 0L;
            case "<": return a < b ? 1L : 0L;
            case "<=": return a <= b ? 1L : 0L;
            case ">": return a > b ? 1L : 0L;
            case ">=": return a >= b ? 1L : 0L;
            case "and": return a != 0 && b != 0 ? 1L : 0L;
            default: return a != 0 || b != 0 ? 1L : 0L;
        }
    }

    boolean isFeast(int feast, int count) {
        Long value = value(feasts.get(feast), count);
        return value != null && value != 0;
    }

    long festive(int feast, int count) {
        for (int i = 0; i < DAYS; i++) {
            if (isFeast(feast, count + i)) {
                return count + i;
            }
        }
        return -2;
    }

    // ---- people, deeds, springs

    long age(int person, int count, int land) {
        int born = people.get(person)[0];
        if (count < born || years[land][born] == 0) {
            return -1;
        }
        int age = 0;
        for (int then = born + 1; then <= count; then++) {
            if (years[land][then] > years[land][born] && days[land][then] == days[land][born]) {
                age++;
            }
        }
        return age;
    }

    boolean endsYear(int land, int count) {
        return years[land][count] > 0 && days[land][count] == length(land, years[land][count]);
    }

    long due(int deed, int land) {
        int[] told = deeds.get(deed);
        int at = told[0];
        if (told[1] == 1) {
            return at + told[2];
        }
        if (told[1] == 2) {
            return festive(told[2], at + 1);
        }
        int year = years[land][at] + told[2];
        if (length(land, year) < 0) {
            return -1;
        }
        boolean has = days[land][at] <= length(land, year);
        for (int count = at; count < FAR; count++) {
            if (years[land][count] == (has ? year : year + 1) && days[land][count] == (has ? days[land][at] : 1)) {
                return count;
            }
        }
        // beyond the table: NONE only if the year is not there
        return length(land, has ? year : year + 1) < 0 ? -1 : Long.MAX_VALUE;
    }

    long deed(int deed, int land, int what) {
        int[] told = deeds.get(deed);
        if (years[land][told[0]] == 0) {
            return -1;
        }
        if (what == 0) {
            return told[0];
        }
        long due = due(deed, land);
        if (what == 1 || due < 0 || due == Long.MAX_VALUE) {
            return due;
        }
        return ends(land, told[0], (int) due - told[0]) * (long) told[3];
    }

    int ends(int land, int count, int m) {
        int ended = 0;
        for (int i = 1; i <= m; i++) {
            if (endsYear(land, count + i)) {
                ended++;
            }
        }
        return ended;
    }

    long hire(int land, int a, int n, int m) {
        int best = a;
        for (int i = 1; i <= n; i++) {
            if (ends(land, a + i, m) > ends(land, best, m)) {
                best = a + i;
            }
        }
        return best;
    }

    /** -3 beyond the model's table. */
    long springs(int land, int year) {
        if (length(land, year) < 0) {
            return -1;
        }
        long begin = lands.get(land)[2];
        for (int then = 1; then < year && begin < FAR; then++) {
            begin += length(land, then);
        }
        long end = begin + length(land, year) - 1;
        if (end >= FAR) {
            return -3;
        }
        int springs = 0;
        for (long count = begin; count <= end; count++) {
            springs += isSpring(count) ? 1 : 0;
        }
        return springs;
    }

    /** -3 beyond the model's table. */
    long many(int land, int year, int n) {
        if (length(land, year) < 0) {
            return -1;
        }
        for (int then = year; then < year + 1000; then++) {
            long some = springs(land, then);
            if (some == n || some == -3) {
                return some == n ? then : -3;
            }
        }
        return -2;
    }

    // ---- lengths

    int often(int land, int a, int b, long number) {
        int often = 0;
        for (int then = a; then <= b; then++) {
            often += length(land, then) >= number ? 1 : 0;
        }
        return often;
    }

    int parts(int land, int year, int what) {
        long length = length(land, year);
        int numbers = 0;
        int greatest = 0;
        for (int by = 1; by <= 99; by++) {
            numbers += length % by == 0 ? 1 : 0;
            greatest = length % by == 0 ? by : greatest;
        }
        return length < 0 ? -1 : what == 0 ? numbers : greatest;
    }

    long months(int land, int year, int n) {
        if (length(land, year) < 0) {
            return -1;
        }
        for (int then = year; then < year + 1000; then++) {
            long some = length(land, then);
            if (some > 0 && some % n == 0) {
                return then;
            }
        }
        return -2;
    }

    // ---- days that are several things at once

    long next(int count, int day, int week, int moon) {
        for (int then = count; then < count + DAYS; then++) {
            if ((day < 0 || !lands.isEmpty() && days[0][then] == day)
                    && (week < 0 || weekDay(then) == week) && (moon < 0 || moonOf(then) == moon)) {
                return then;
            }
        }
        return -2;
    }

    long alike(int one, int other, int count, boolean year) {
        if (one == other || one >= lands.size() || other >= lands.size()) {
            return -1;
        }
        for (int then = count; then < count + DAYS; then++) {
            if (days[one][then] > 0 && days[one][then] == days[other][then]
                    && (!year || years[one][then] == years[other][then])) {
                return then;
            }
        }
        return -2;
    }

    // ---- notes

    boolean on(int note, int count) {
        if (notes.get(note).on == null) {
            notes.get(note).on = new boolean[DAYS];
            for (int i = 0; i < DAYS; i++) {
                notes.get(note).on[i] = allIsSo(notes.get(note).says, i);
            }
        }
        return count >= 0 && count < DAYS && notes.get(note).on[count];
    }

    private boolean allIsSo(int[][] says, int count) {
        int year = lands.isEmpty() ? 0 : years[0][count];
        int day = lands.isEmpty() ? 0 : days[0][count];
        return (says[0] == null || year >= says[0][0] && year <= says[0][1])
                && (says[1] == null || day == says[1][0])
                && (says[2] == null || weekDay(count) == says[2][0])
                && (says[3] == null || moonOf(count) == says[3][0])
                && (says[4] == null || seasonOf(count) == says[4][0])
                && (says[5] == null || isAlive(people.get(says[5][0]), count))
                && (says[6] == null || isFeast(says[6][0], count));
    }

    private static boolean isAlive(int[] person, int count) {
        return person[0] <= count && (person[1] < 0 || person[1] >= count);
    }

    private boolean inSet(int set, int note) {
        return (set >> note & 1) == 1;
    }

    /** Whether a note can be on a count, with all of a set that are after it where they must be then. */
    private boolean holdsOn(int note, int count, int set) {
        if (!on(note, count)) {
            return false;
        }
        for (int i = 0; i < notes.size(); i++) {
            int[] after = notes.get(i).says[7];
            if (inSet(set, i) && after != null && after[0] == note && !holdsOn(i, count + after[1], set)) {
                return false;
            }
        }
        return true;
    }

    boolean holds(int set) {
        for (int i = 0; i < notes.size(); i++) {
            int[] after = notes.get(i).says[7];
            if (!inSet(set, i) || after != null && inSet(set, after[0])) {
                continue;
            }
            boolean can = false;
            for (int count = 0; count < DAYS && !can; count++) {
                can = holdsOn(i, count, set);
            }
            if (!can) {
                return false;
            }
        }
        return true;
    }

    int gap() {
        int best = 0;
        for (int set = 1; set < 1 << notes.size(); set++) {
            boolean fewer = best == 0 || Integer.bitCount(set) < Integer.bitCount(best);
            if (fewer && !holds(set)) {
                best = set;
            }
        }
        return best;
    }

    /** How many, the first, the last. */
    int[] fits(int note) {
        int all = (1 << notes.size()) - 1;
        int[] found = {0, -1, -1};
        if (!holds(all)) {
            return found;
        }
        int root = note;
        int off = 0;
        while (notes.get(root).says[7] != null) {
            off += notes.get(root).says[7][1];
            root = notes.get(root).says[7][0];
        }
        for (int count = 0; count < DAYS; count++) {
            if (holdsOn(root, count, all)) {
                put(found, count + off);
            }
        }
        return found;
    }

    int[] alone(int note) {
        int[] found = {0, -1, -1};
        for (int count = 0; count < DAYS; count++) {
            if (on(note, count)) {
                put(found, count);
            }
        }
        return found;
    }

    private static void put(int[] found, int count) {
        found[0]++;
        found[1] = found[1] < 0 ? count : found[1];
        found[2] = count;
    }

    int judged(List<int[]> rows) {
        for (int i = 0; i < rows.size(); i++) {
            int[] row = rows.get(i);
            if (row[0] >= notes.size() || !on(row[0], row[1])) {
                return i;
            }
            int[] after = notes.get(row[0]).says[7];
            int ahead = -1;
            for (int j = 0; after != null && j < i; j++) {
                ahead = rows.get(j)[0] == after[0] ? rows.get(j)[1] : ahead;
            }
            if (ahead >= 0 && row[1] != ahead + after[1]) {
                return i;
            }
        }
        return rows.size();
    }
}
