/** Each sentence that names a boundary, of Terms about notes, counts told and images, and of promises 27 to 38. */
public final class EdgesOfNotesTest {
    private static final int NONE = -1;
    private static final int MIN = Integer.MIN_VALUE;
    private static final int MAX = Integer.MAX_VALUE;
    private static final int[] NO_INDEX = {-1, -2, 31, 32, MIN, MAX};

    public static void main(String[] args) {
        note();
        saysNoNote();
        saysItAlready();
        saysNoSuchOnes();
        saysOfTheLast();
        afterByCall();
        undo();
        undoOnlyByCall();
        onFirstAndLastCounts();
        yearsOfNotes();
        yearsOfAllLengths();
        alive();
        otherWords();
        alone();
        fits();
        fitsAtTheEnds();
        fitsNone();
        gap();
        gapFewest();
        gapLeastBits();
        gapNotHeld();
        told();
        judged();
        judgedAfter();
        judgedNoMore();
        forget();
        keep();
        back();
        imageOfAText();
        size();
        Check.end();
    }

    private static LongYears notes(int many) {
        LongYears x = new LongYears();
        for (int i = 0; i < many; i++) {
            x.note();
        }
        return x;
    }

    private static void three(String of, LongYears x, boolean alone, int note, int... due) {
        for (int what = 0; what < 3; what++) {
            Check.due(of + (alone ? ": alone(" : ": fits(") + note + ", " + what + ")",
                    alone ? x.alone(note, what) : x.fits(note, what), due[what]);
        }
    }

    // ---- notes by call

    private static void note() {
        Check.sentence("promise 27: A NOTE more comes, saying nothing yet: its number; NONE: there are 12");
        LongYears x = new LongYears();
        for (int i = 0; i < 12; i++) {
            Check.due("note()", x.note(), i);
            three("a new one", x, true, i, 20000, 0, 19999);
        }
        Check.due("a thirteenth", x.note(), NONE);
        Check.due("none came", x.size(4), 12);
        Check.due("nothing to undo came", x.size(8), 12);
        Check.due("the last can be undone", x.undo(), 11);
        Check.due("and come again", x.note(), 11);
        Check.due("a thirteenth", x.note(), NONE);
        x = Check.told("note a;note b;note c;note d;note e;note f day 1;");
        for (int i = 6; i < 12; i++) {
            Check.due("behind six of the text", x.note(), i);
        }
        Check.due("a thirteenth", x.note(), NONE);
        Check.due("what can be undone", x.size(8), 6);
        Check.sentence("promise 27: saying nothing yet (in place of one undone)");
        x = notes(2);
        x.says(1, 5, 0);
        x.says(7, 0, 3);
        x.undo();
        x.undo();
        x.undo();
        Check.due("note()", x.note(), 1);
        three("it says nothing", x, true, 1, 20000, 0, 19999);
        Check.due("it can say it", x.says(7, 0, 3), true);
        Check.due("it can say it", x.says(1, 5, 0), true);
        Check.sentence("promise 27: saying nothing yet (behind texts and IMAGES whose NOTES said something)");
        x = Check.told("land l 9 0;note a day 3;note b day 4 after a 1;");
        three("of the text", x, true, 1, 2222, 3, 19992);
        for (int i = 0; i < 3; i++) {
            Check.tell(x, "");
            Check.due("note()", x.note(), 0);
            Check.due("note()", x.note(), 1);
            three("it says nothing", x, true, 0, 20000, 0, 19999);
            three("it says nothing", x, true, 1, 20000, 0, 19999);
            three("nor is it after one", x, false, 1, 20000, 0, 19999);
            Check.tell(x, "land l 9 0;note a day 3;note b day 4 after a 1;");
            three("of the text again", x, true, 1, 2222, 3, 19992);
        }
        x = new LongYears();
        x.keep();
        x.note();
        x.says(2, 3, 0);
        three("it says something", x, true, 0, 2857, 3, 19995);
        x.back();
        x.note();
        three("it says nothing", x, true, 0, 20000, 0, 19999);
    }

    private static void saysNoNote() {
        Check.sentence("promise 28: false: no NOTE");
        LongYears x = Check.told("land l 9 0;person p 1 1;feast f 1;");
        for (int word = -1; word <= 8; word++) {
            Check.due("says(" + word + ", 0, 0)", x.says(word, 0, 0), false);
            Check.due("says(" + word + ", 1, 1)", x.says(word, 1, 1), false);
        }
        Check.due("nothing to undo", x.size(8), 0);
        x.note();
        x.undo();
        Check.due("undone", x.says(1, 1, 0), false);
    }

    private static void saysItAlready() {
        Check.sentence("promise 28: false: it said it already");
        String text = "land l 9 0;person p 1 1;feast f 1;note m;note n";
        String[] words = {" year 1 2", " day 1", " week 1", " moon 1", " season 1", " alive p", " feast f", " after m 1"};
        int[][] says = {{1, 2}, {1, 0}, {1, 0}, {1, 0}, {1, 0}, {0, 0}, {0, 0}, {0, 1}};
        for (int word = 0; word < 8; word++) {
            LongYears x = Check.told(text + words[word] + ";");
            Check.due("the text's word " + word, x.says(word, says[word][0], says[word][1]), false);
            Check.due("nothing to undo", x.size(8), 0);
            x = Check.told(text + ";");
            Check.due("word " + word, x.says(word, says[word][0], says[word][1]), true);
            Check.due("word " + word + " twice", x.says(word, says[word][0], says[word][1]), false);
            Check.due("one to undo", x.size(8), 1);
            x.undo();
            Check.due("undone, word " + word, x.says(word, says[word][0], says[word][1]), true);
            x.note();
            Check.due("another NOTE, word " + word, x.says(word, says[word][0], says[word][1]), true);
        }
        LongYears x = Check.told(text + ";");
        for (int word = 0; word < 8; word++) {
            Check.due("all words", x.says(word, says[word][0], says[word][1]), true);
        }
        for (int word = 0; word < 8; word++) {
            Check.due("all words twice", x.says(word, says[word][0], says[word][1]), false);
        }
        Check.due("what can be undone", x.size(8), 8);
    }

    /** Whether a second note of a text with a land, six people and four feasts may say this. */
    private static boolean canSay(int word, int a, int b) {
        LongYears x = Check.told("land l 9 0;person a 1 1;person b 1 1;person c 1 1;person d 1 1;person e 1 1;person f 1 1;"
                + "feast a 1;feast b 1;feast c 1;feast d 1;note a;note b;note c;");
        boolean can = x.says(word, a, b);
        Check.due("what can be undone", x.size(8), can ? 1 : 0);
        return can;
    }

    private static void saysNoSuchOnes() {
        Check.sentence("promise 28: 0 year a .. b (1 .. 9999)");
        int[][] years = {{1, 1}, {1, 9999}, {9999, 9999}, {5, 5}};
        for (int[] year : years) {
            Check.due("year " + year[0] + " " + year[1], canSay(0, year[0], year[1]), true);
        }
        int[][] noYears = {{0, 1}, {0, 0}, {-1, 5}, {1, 10000}, {10000, 10000}, {5, 4}, {9999, 1}, {MIN, MAX}, {1, MAX}, {1, MIN}};
        for (int[] year : noYears) {
            Check.due("year " + year[0] + " " + year[1], canSay(0, year[0], year[1]), false);
        }
        Check.sentence("promise 28: 1 day a (1 .. 99999), 2 week a (0 .. 99999), 3 moon a (0 .. 7), 4 season a (0 .. 3), "
                + "5 alive PERSON a, 6 FEAST a: no such ones");
        int[] least = {0, 1, 0, 0, 0, 0, 0};
        int[] most = {0, 99999, 99999, 7, 3, 5, 3};
        for (int word = 1; word <= 6; word++) {
            for (int b : new int[] {0, -1, MIN, MAX}) {
                Check.due("word " + word + " " + least[word], canSay(word, least[word], b), true);
                Check.due("word " + word + " " + most[word], canSay(word, most[word], b), true);
                Check.due("word " + word + " " + (least[word] - 1), canSay(word, least[word] - 1, b), false);
                Check.due("word " + word + " " + (most[word] + 1), canSay(word, most[word] + 1, b), false);
            }
            Check.due("word " + word + " MIN", canSay(word, MIN, 0), false);
            Check.due("word " + word + " MAX", canSay(word, MAX, 0), false);
        }
        Check.sentence("promise 28: a word: no such ones");
        for (int word : new int[] {-1, 8, 9, 31, 32, 33, 39, -8, MIN, MAX}) {
            Check.due("word " + word, canSay(word, 1, 1), false);
        }
        Check.due("no PEOPLE", notes(1).says(5, 0, 0), false);
        Check.due("no FEASTS", notes(1).says(6, 0, 0), false);
        Check.due("a year without a LAND", notes(1).says(0, 1, 1), true);
    }

    private static void saysOfTheLast() {
        Check.sentence("promise 28: The last NOTE says a word more");
        LongYears x = Check.told("land l 10 0;note a;note b day 2;");
        Check.due("of the text", x.says(0, 3, 3), true);
        three("the last", x, true, 1, 1, 21, 21);
        three("not the one ahead", x, true, 0, 20000, 0, 19999);
        x.note();
        Check.due("by call", x.says(0, 4, 4), true);
        three("the last", x, true, 2, 10, 30, 39);
        three("not the one ahead", x, true, 1, 1, 21, 21);
        x.undo();
        x.undo();
        Check.due("the one ahead again", x.says(2, 0, 0), true);
        three("the last", x, true, 1, 1, 21, 21);
    }

    private static void afterByCall() {
        Check.sentence("promise 28: 7 after NOTE a by b days (as in the TEXT: a NOTE ahead, -9999 .. 9999)");
        for (int a = 0; a < 2; a++) {
            Check.due("after " + a, canSay(7, a, 0), true);
            Check.due("after " + a + " by 9999", canSay(7, a, 9999), true);
            Check.due("after " + a + " by -9999", canSay(7, a, -9999), true);
            for (int b : new int[] {10000, -10000, MIN, MAX}) {
                Check.due("after " + a + " by " + b, canSay(7, a, b), false);
            }
        }
        for (int a : new int[] {2, 3, 12, -1, MIN, MAX}) {
            Check.due("after " + a, canSay(7, a, 0), false);
        }
        Check.due("the first after itself", notes(1).says(7, 0, 0), false);
        LongYears x = notes(12);
        Check.due("the twelfth after itself", x.says(7, 11, 0), false);
        Check.due("the twelfth after the eleventh", x.says(7, 10, 0), true);
    }

    private static void undo() {
        Check.sentence("promise 29: The latest by call is undone: how many are left; NONE: none");
        LongYears x = new LongYears();
        Check.due("none", x.undo(), NONE);
        x.note();
        x.says(1, 1, 0);
        x.says(2, 1, 0);
        x.note();
        Check.due("four", x.size(8), 4);
        Check.due("the second NOTE", x.undo(), 3);
        Check.due("one NOTE", x.size(4), 1);
        Check.due("its second word", x.undo(), 2);
        Check.due("its first word", x.undo(), 1);
        Check.due("one NOTE", x.size(4), 1);
        three("that says nothing", x, true, 0, 20000, 0, 19999);
        Check.due("the first NOTE", x.undo(), 0);
        Check.due("no NOTE", x.size(4), 0);
        Check.due("none", x.undo(), NONE);
        Check.due("none", x.undo(), NONE);
        Check.due("none", x.size(8), 0);
        Check.sentence("each can be undone, the latest first (as many as can be: 12 NOTES, 8 words each)");
        x = Check.told("land l 9 0;person p 1 1;feast f 1;note m;note n;");
        int[][] says = {{1, 2}, {1, 0}, {1, 0}, {1, 0}, {1, 0}, {0, 0}, {0, 0}, {0, 1}};
        int steps = 0;
        for (int note = 1; note < 12; note++) {
            steps += note > 1 ? 1 : 0;
            Check.due("note " + note, note == 1 ? 1 : x.note(), note);
            for (int word = 0; word < 8; word++) {
                Check.due("word " + word, x.says(word, says[word][0], says[word][1]), true);
                steps++;
            }
        }
        Check.due("all", x.size(8), steps);
        for (int left = steps - 1; left >= 0; left--) {
            Check.due("undone", x.undo(), left);
        }
        Check.due("none", x.undo(), NONE);
        Check.due("two of the text", x.size(4), 2);
    }

    private static void undoOnlyByCall() {
        Check.sentence("promise 29: NONE: none (the TEXT's NOTES and words, COUNTS told, forget, keep are not undone)");
        LongYears x = Check.told("land l 9 0;note m day 3;note n week 2;");
        x.told(0, 2);
        x.keep();
        x.forget();
        Check.due("none", x.undo(), NONE);
        Check.due("nothing can be", x.size(8), 0);
        Check.due("NOTES", x.size(4), 2);
        three("its word", x, true, 0, 2222, 2, 19991);
        Check.due("refused calls", x.says(1, 0, 0) || x.says(7, 1, 1), false);
        Check.due("none", x.undo(), NONE);
    }

    // ---- on which counts

    private static void onFirstAndLastCounts() {
        Check.sentence("each is on some COUNT 0 .. 19999 on which all that it says is so");
        LongYears x = Check.told("land l 1 0;feast a year = 1;feast b year = 2 * 9999 + 2;feast c year = 2 * 9999 + 3;"
                + "feast d year > 2 * 9999;note a feast a;note b feast b;note c feast c;note d feast d;note e;");
        three("COUNT 0", x, true, 0, 1, 0, 0);
        three("COUNT 19999", x, true, 1, 1, 19999, 19999);
        three("COUNT 20000", x, true, 2, 0, NONE, NONE);
        three("19998, 19999", x, true, 3, 2, 19998, 19999);
        three("all", x, true, 4, 20000, 0, 19999);
        x = Check.told("land l 9999 0 from 19999;note a day 1;note b day 2;note c year 1 1;note d year 2 2;note e day 1 year 1 9999;");
        three("its first DAY is the last COUNT", x, true, 0, 1, 19999, 19999);
        three("its second is not there", x, true, 1, 0, NONE, NONE);
        three("its first YEAR", x, true, 2, 1, 19999, 19999);
        three("its second YEAR", x, true, 3, 0, NONE, NONE);
        three("both", x, true, 4, 1, 19999, 19999);
        x = Check.told("land l 20 0 from 20000;note a day 1;note b year 1 9999;note c;");
        three("no DAY", x, true, 0, 0, NONE, NONE);
        three("no YEAR", x, true, 1, 0, NONE, NONE);
        three("nothing said", x, true, 2, 20000, 0, 19999);
    }

    private static void yearsOfNotes() {
        Check.sentence("year: by LAND 0, from .. to");
        LongYears x = Check.told("land l 10 0;land k 7 0;note a year 1 1;note b year 2 3;note c year 2000 9999;note d year 2001 9999;"
                + "note e year 1 9999;note f year 9999 9999;");
        three("YEAR 1", x, true, 0, 10, 0, 9);
        three("YEARS 2, 3", x, true, 1, 20, 10, 29);
        three("YEAR 2000", x, true, 2, 10, 19990, 19999);
        three("YEAR 2001", x, true, 3, 0, NONE, NONE);
        three("all", x, true, 4, 20000, 0, 19999);
        three("YEAR 9999", x, true, 5, 0, NONE, NONE);
        x = Check.told("land l 3 -1 from 5;note a year 1 1;note b year 3 3;note c year 3 9999;note d year 4 9999;note e year 1 9999;"
                + "note f year 2 3;");
        three("YEAR 1", x, true, 0, 3, 5, 7);
        three("the last YEAR", x, true, 1, 1, 10, 10);
        three("from the last YEAR on", x, true, 2, 1, 10, 10);
        three("behind it", x, true, 3, 0, NONE, NONE);
        three("all", x, true, 4, 6, 5, 10);
        three("YEARS 2, 3", x, true, 5, 3, 8, 10);
        x = Check.told("land l 1 0;note a year 9999 9999;note b year 9998 9999;");
        three("YEAR 9999", x, true, 0, 1, 9998, 9998);
        three("YEARS 9998, 9999", x, true, 1, 2, 9997, 9998);
        x = Check.told("note a year 1 9999;note b day 1;note c week 0;");
        three("no LAND, a YEAR", x, true, 0, 0, NONE, NONE);
        three("no LAND, a DAY", x, true, 1, 0, NONE, NONE);
        three("no LAND, a WEEK day", x, true, 2, 2858, 0, 19999);
        x = Check.told("land l 9999 99;note a year 1 1;note b year 2 9999;note c day 10098;note d day 10099;note e day 99999;");
        three("YEAR 1", x, true, 0, 9999, 0, 9998);
        three("YEAR 2, cut", x, true, 1, 10001, 9999, 19999);
        three("DAY 10098", x, true, 2, 0, NONE, NONE);
        three("DAY 99999", x, true, 4, 0, NONE, NONE);
    }

    /** Years of so many days: their first and last days on all places of the words of bits. */
    private static void yearsOfAllLengths() {
        Check.sentence("year: from .. to: the first DAY and the last one");
        for (int length = 1; length <= 400; length++) {
            LongYears x = Check.told("land l " + length + " 0;note a year 1 1;note b year 2 2;note c year 3 40;note d year 40 9999;");
            three("YEAR 1 of " + length, x, true, 0, length, 0, length - 1);
            three("YEAR 2 of " + length, x, true, 1, length, length, 2 * length - 1);
            three("YEARS 3 .. 40 of " + length, x, true, 2, 38 * length, 2 * length, 40 * length - 1);
            int last = Math.min(19999, 9999 * length - 1);
            three("YEAR 40 of " + length, x, true, 3, last + 1 - 39 * length, 39 * length, last);
        }
    }

    private static void alive() {
        Check.sentence("alive: born by then, and not dead ahead of it");
        LongYears x = Check.told("land l 1000 0;person a 1 1 died 1 1;person b 1 2 died 1 3;person c 20 1000;"
                + "person d 21 1;person e 20 999 died 99 1;person f 1 5;note a alive a;note b alive b;note c alive c;note d alive d;"
                + "note e alive e;note f alive f;");
        three("born and dead on 0", x, true, 0, 1, 0, 0);
        three("1 and 2", x, true, 1, 2, 1, 2);
        three("born on 19999", x, true, 2, 1, 19999, 19999);
        three("born on 20000", x, true, 3, 0, NONE, NONE);
        three("19998, 19999, dead later", x, true, 4, 2, 19998, 19999);
        three("not dead", x, true, 5, 19996, 4, 19999);
        x = Check.told("land l 10 0;person a 1 5 died 2 5;note a alive a day 5;note b alive a day 4;note c alive a day 6;"
                + "note d alive a year 2 2;note e alive a year 3 9;note f alive a year 1 1;");
        three("birth and death", x, true, 0, 2, 4, 14);
        three("between them", x, true, 1, 1, 13, 13);
        three("between them", x, true, 2, 1, 5, 5);
        three("up to the death", x, true, 3, 5, 10, 14);
        three("dead", x, true, 4, 0, NONE, NONE);
        three("from the birth on", x, true, 5, 6, 4, 9);
    }

    private static void otherWords() {
        Check.sentence("all that it says is so: day, week, moon, season, a FEAST (an ERROR is none)");
        LongYears x = Check.told("land l 10 0;week 3 1;moon 8 1 7;sun 8 1;feast f day = 1;feast g 1 / (day - 1);note a week 2 day 1;note b moon 0;"
                + "note c season 3;note d feast f;note e feast g day 1;note f week 3;");
        three("week 2 and day 1", x, true, 0, 667, 10, 19990);
        three("moon 0", x, true, 1, 2500, 1, 19993);
        three("season 3", x, true, 2, 5000, 6, 19999);
        three("a FEAST", x, true, 3, 2000, 0, 19990);
        three("an ERROR on each", x, true, 4, 0, NONE, NONE);
        three("a WEEK day that there is not", x, true, 5, 0, NONE, NONE);
        x = Check.told("week 30 0;note a week 29;note b week 99999;note c moon 7;note d season 0;");
        three("WEEK day 29", x, true, 0, 666, 29, 19979);
        three("WEEK day 99999", x, true, 1, 0, NONE, NONE);
        Check.due("MOON 7, the first", x.alone(2, 1), 26);
        Check.due("SEASON 0, the first", x.alone(3, 1), 0);
    }

    private static void alone() {
        Check.sentence("promise 30: Of a NOTE alone (not after another)");
        LongYears x = Check.told("week 7 0;note a week 99999;note b after a 5 week 3;");
        three("after one that can't be", x, true, 1, 2857, 3, 19995);
        three("that one", x, true, 0, 0, NONE, NONE);
        x = Check.told("week 7 0;note a week 2;note b after a 100 week 4;");
        three("together", x, false, 1, 2843, 102, 19996);
        three("alone", x, true, 1, 2857, 4, 19996);
        three("together", x, false, 1, 2843, 102, 19996);
        Check.sentence("promise 30: NONE: no such ones");
        for (int index : NO_INDEX) {
            Check.due("note " + index, x.alone(index, 0), NONE);
        }
        Check.due("note 2", x.alone(2, 0), NONE);
        for (int what : new int[] {-1, 3, MIN, MAX}) {
            Check.due("what " + what, x.alone(1, what), NONE);
        }
        x = notes(12);
        Check.due("note 11", x.alone(11, 2), 19999);
        Check.due("note 12", x.alone(12, 2), NONE);
        x.undo();
        Check.due("note 11 undone", x.alone(11, 2), NONE);
    }

    private static void fits() {
        Check.sentence("promise 31: NONE: no such ones");
        LongYears x = notes(12);
        Check.due("note 11", x.fits(11, 2), 19999);
        Check.due("note 12", x.fits(12, 2), NONE);
        for (int index : NO_INDEX) {
            Check.due("note " + index, x.fits(index, 0), NONE);
        }
        for (int what : new int[] {-1, 3, MIN, MAX}) {
            Check.due("what " + what, x.fits(1, what), NONE);
        }
        x.undo();
        Check.due("note 11 undone", x.fits(11, 2), NONE);
        Check.due("a new object", new LongYears().fits(0, 0), NONE);
        Check.sentence("One that is after another is so many days after it");
        x = Check.told("land l 10 0;note a year 3 3;note b after a 4 day 2;note c after b -12 year 1 2;note d after a 0;note e year 1 1;");
        three("a", x, false, 0, 1, 27, 27);
        three("b", x, false, 1, 1, 31, 31);
        three("c", x, false, 2, 1, 19, 19);
        three("d", x, false, 3, 1, 27, 27);
    }

    private static void fitsAtTheEnds() {
        Check.sentence("each is on some COUNT 0 .. 19999: one after another, too");
        LongYears x = Check.told("note a;note b after a 9999;note c after a -9999;");
        three("a", x, false, 0, 2, 9999, 10000);
        three("b", x, false, 1, 2, 19998, 19999);
        three("c", x, false, 2, 2, 0, 1);
        x = Check.told("note a;note b after a 9999;note c after b 9999;");
        three("a", x, false, 0, 2, 0, 1);
        three("c", x, false, 2, 2, 19998, 19999);
        x = Check.told("note a;note b after a 9999;note c after b 9999;note d after c 1;");
        three("a", x, false, 0, 1, 0, 0);
        three("d", x, false, 3, 1, 19999, 19999);
        x = Check.told("note a;note b after a 9999;note c after b 9999;note d after c 2;");
        three("no room", x, false, 0, 0, NONE, NONE);
        Check.due("all of them", x.gap(), 15);
        x = Check.told("note a;note b after a -9999;note c after b -9999;note d after c -1;");
        three("a", x, false, 0, 1, 19999, 19999);
        three("d", x, false, 3, 1, 0, 0);
        x = Check.told("note a;note b after a -9999;note c after b -9999;note d after c -2;");
        three("no room", x, false, 3, 0, NONE, NONE);
        x = Check.told("note a;note b after a 1;note c after a -1;note d after b -1;note e;");
        three("a", x, false, 0, 19998, 1, 19998);
        three("b", x, false, 1, 19998, 2, 19999);
        three("c", x, false, 2, 19998, 0, 19997);
        three("d", x, false, 3, 19998, 1, 19998);
        three("e", x, false, 4, 20000, 0, 19999);
        for (int shift = 1; shift < 200; shift += 9) {
            x = notes(2);
            x.says(7, 0, shift);
            three("shift " + shift, x, false, 0, 20000 - shift, 0, 19999 - shift);
            three("shift " + shift, x, false, 1, 20000 - shift, shift, 19999);
            x = notes(2);
            x.says(7, 0, -shift);
            three("shift " + -shift, x, false, 0, 20000 - shift, shift, 19999);
            three("shift " + -shift, x, false, 1, 20000 - shift, 0, 19999 - shift);
        }
    }

    private static void fitsNone() {
        Check.sentence("FITS: so that all NOTES hold (0; NONE)");
        LongYears x = Check.told("week 7 0;note a;note b week 7;note c after a 3;");
        for (int note = 0; note < 3; note++) {
            three("one can't be", x, false, note, 0, NONE, NONE);
        }
        x = Check.told("week 7 0;note a week 0;note b after a 6 week 5;note c;");
        for (int note = 0; note < 3; note++) {
            three("two can't be together", x, false, note, 0, NONE, NONE);
        }
        Check.due("though alone", x.alone(2, 0), 20000);
    }

    // ---- gaps

    private static void gap() {
        Check.sentence("promise 32: 0: all hold together");
        Check.due("no NOTES", new LongYears().gap(), 0);
        Check.due("NOTES that say nothing", notes(12).gap(), 0);
        LongYears x = Check.told("week 7 0;note a week 6;note b after a 1 week 0;");
        Check.due("two that hold", x.gap(), 0);
        Check.sentence("promise 32: GAP (bits)");
        x = notes(12);
        x.says(2, 7, 0);
        Check.due("the twelfth alone", x.gap(), 1 << 11);
        x = notes(1);
        x.says(2, 7, 0);
        Check.due("the first alone", x.gap(), 1);
        x = notes(1);
        for (int i = 1; i < 12; i++) {
            x.note();
            x.says(7, i - 1, i == 1 ? 1829 : 1818);
        }
        Check.due("all twelve", x.gap(), 4095);
        Check.due("none fits", x.fits(11, 0), 0);
        x.undo();
        Check.due("without the last word", x.gap(), 0);
        x.says(7, 10, 1808);
        Check.due("just room for them", x.gap(), 0);
        three("from one end to the other", x, false, 11, 1, 19999, 19999);
    }

    private static void gapFewest() {
        Check.sentence("GAP: the set of NOTES with the fewest");
        String text = "week 7 0;note a week 0;note b after a 1;note c after b 1 week 3;";
        LongYears x = Check.told(text);
        Check.due("three", x.gap(), 7);
        x = Check.told(text + "note d week 1;note e after d 1 week 1;");
        Check.due("two ahead of three", x.gap(), 8 | 16);
        x = Check.told(text + "note d week 1;note e after d 1 week 1;note f week 7;");
        Check.due("one ahead of two", x.gap(), 32);
        x = Check.told("week 7 0;note a week 0;note b after a 1;note c after b 1;note d after c 1 week 4;note e after a 2 week 3;");
        Check.due("two of one tree", x.gap(), 1 | 16);
    }

    private static void gapLeastBits() {
        Check.sentence("GAP: (then the least bits)");
        LongYears x = Check.told("week 7 0;note a week 7;note b week 8;");
        Check.due("the first of two", x.gap(), 1);
        x = Check.told("week 7 0;note a week 0;note b;note c after a 1 week 0;note d after b 1;note e after a 1 week 2;");
        Check.due("a, c ahead of a, e", x.gap(), 1 | 4);
        x = Check.told("week 7 0;note a;note b week 1;note c after a 1 week 3;note d after b 1 week 3;note e after a 1 week 4;");
        Check.due("b, d (10); c, e with a are three", x.gap(), 2 | 8);
        x = Check.told("week 7 0;note a;note b after a 1 week 3;note c after a 2 week 3;note d;note e after a 3 week 3;");
        Check.due("a, b, c (7) ahead of a, b, e", x.gap(), 7);
    }

    private static void gapNotHeld() {
        Check.sentence("GAP: those that are after one that isn't in the set are not held to it");
        LongYears x = Check.told("week 7 0;note a week 0;note b after a 1;note c after b 1 week 3;");
        Check.due("a and c alone do not bind each other", x.gap(), 7);
        x.undo();
        x = Check.told("note a;note b after a 9999;note c after b 9999;note d after c 9999;");
        Check.due("a chain without one of it has room", x.gap(), 15);
        x = Check.told("note a;note b after a 9999;note c after b 9999;note d after b 9999;note e after c 2;");
        Check.due("d is not needed", x.gap(), 1 | 2 | 4 | 16);
        x = Check.told("note a;note b after a 9999;note c after a -9999;note d after b 9999;");
        Check.due("all four: -9999 .. 19998", x.gap(), 15);
        Check.sentence("GAP: though those without any one can");
        x = Check.told("week 7 0;note a week 7;note b after a 1;");
        Check.due("one alone is all", x.gap(), 1);
    }

    // ---- counts told

    private static void told() {
        Check.sentence("promise 33: A COUNT (0 .. 19999) is told for a NOTE: how many are told");
        LongYears x = notes(12);
        Check.due("COUNT 0", x.told(0, 0), 1);
        Check.due("COUNT 19999, note 11", x.told(11, 19999), 2);
        Check.sentence("promise 33: NONE: no such ones");
        for (int count : new int[] {-1, 20000, MIN, MAX}) {
            Check.due("COUNT " + count, x.told(0, count), NONE);
        }
        Check.due("note 12", x.told(12, 0), NONE);
        for (int index : NO_INDEX) {
            Check.due("note " + index, x.told(index, 0), NONE);
        }
        Check.due("two are told", x.size(7), 2);
        Check.due("a new object", new LongYears().told(0, 0), NONE);
        Check.sentence("promise 33: NONE: .. or there are 20");
        for (int i = 3; i <= 20; i++) {
            Check.due("told", x.told(i % 12, i), i);
        }
        Check.due("a 21st", x.told(0, 0), NONE);
        Check.due("20 are told", x.size(7), 20);
        Check.due("all can be", x.judged(), 20);
        Check.due("forget", x.forget(), 20);
        Check.due("room again", x.told(0, 0), 1);
    }

    private static void judged() {
        Check.sentence("promise 34: the first that can't be; how many are told, if all can");
        LongYears x = Check.told("land l 10 0;note a day 1;note b day 10;");
        Check.due("none told", x.judged(), 0);
        x.told(0, 0);
        x.told(1, 19999);
        Check.due("0 and 19999 can", x.judged(), 2);
        x.told(1, 19998);
        Check.due("the third", x.judged(), 2);
        x.told(0, 1);
        Check.due("the first of two", x.judged(), 2);
        x.forget();
        x.told(0, 19999);
        Check.due("the first", x.judged(), 0);
        x.forget();
        for (int i = 0; i < 19; i++) {
            x.told(0, i * 10);
        }
        x.told(0, 5);
        Check.due("the 20th", x.judged(), 19);
        x = Check.told("land l 10 0;note a;");
        x.told(0, 5);
        Check.due("it says nothing", x.judged(), 1);
        x.says(1, 1, 0);
        Check.due("it says a word more", x.judged(), 0);
        x.undo();
        Check.due("that is undone", x.judged(), 1);
        x.says(1, 6, 0);
        Check.due("another one", x.judged(), 1);
    }

    private static void judgedAfter() {
        Check.sentence("JUDGED: (after: by the latest COUNT told for that NOTE ahead, if any)");
        LongYears x = Check.told("note a;note b after a 9999;note c after a -9999;note d after b 0;");
        x.told(1, 5);
        x.told(2, 5);
        Check.due("none told for a", x.judged(), 2);
        x.told(0, 10000);
        x.told(1, 19999);
        x.told(2, 1);
        Check.due("just so many days after", x.judged(), 5);
        x.told(3, 5);
        Check.due("not the latest of b", x.judged(), 5);
        x.forget();
        x.told(0, 100);
        x.told(0, 10000);
        x.told(1, 10099);
        Check.due("not the latest", x.judged(), 2);
        x.forget();
        x.told(0, 100);
        x.told(1, 10099);
        x.told(0, 10000);
        x.told(1, 19999);
        x.told(1, 19998);
        Check.due("a day less", x.judged(), 4);
        x.forget();
        x.told(1, 10099);
        x.told(0, 5);
        x.told(1, 10004);
        x.told(1, 10005);
        Check.due("one told behind does not count, the last is off by one", x.judged(), 3);
        x.forget();
        x.told(0, 15000);
        x.told(1, 19999);
        Check.due("so many days after is beyond all", x.judged(), 1);
        x = Check.told("land l 10 0;note a day 1;note b after a 3;");
        x.told(0, 5);
        x.told(1, 8);
        Check.due("the one ahead can't be itself", x.judged(), 0);
        x = Check.told("land l 10 0;note a day 1;note b after a 3 day 4;");
        x.told(0, 0);
        x.told(1, 13);
        Check.due("as it says, but not after", x.judged(), 1);
        x.forget();
        x.told(0, 0);
        x.told(1, 3);
        Check.due("both", x.judged(), 2);
    }

    private static void judgedNoMore() {
        Check.sentence("JUDGED: of a NOTE that there is no more: it can't be");
        LongYears x = Check.told("note a;");
        x.note();
        x.told(0, 3);
        x.told(1, 4);
        Check.due("both can", x.judged(), 2);
        x.undo();
        Check.due("the second is no more", x.judged(), 1);
        Check.due("it is told still", x.size(7), 2);
        x.told(0, 4);
        Check.due("the first that can't be", x.judged(), 1);
        x = notes(2);
        x.keep();
        x.note();
        x.told(2, 7);
        x.told(1, 7);
        x.undo();
        Check.due("no more", x.judged(), 0);
        x.note();
        Check.due("one more", x.judged(), 2);
    }

    private static void forget() {
        Check.sentence("promise 35: Nothing is told any more: how many COUNTS were");
        LongYears x = notes(1);
        Check.due("none", x.forget(), 0);
        x.told(0, 1);
        x.told(0, -1);
        Check.due("one", x.forget(), 1);
        Check.due("none", x.forget(), 0);
        Check.due("none", x.size(7), 0);
        Check.due("none", x.judged(), 0);
        for (int i = 0; i < 25; i++) {
            x.told(0, i);
        }
        Check.due("20", x.forget(), 20);
        x = Check.told("note a;note b after a 5;");
        x.told(0, 3);
        x.forget();
        x.told(1, 9);
        Check.due("what was told for the one ahead is forgotten, too", x.judged(), 1);
    }

    // ---- images

    private static void keep() {
        Check.sentence("promise 36: An IMAGE is kept: how many NOTES there are");
        Check.due("none", new LongYears().keep(), 0);
        Check.due("12", notes(12).keep(), 12);
        LongYears x = notes(3);
        x.keep();
        Check.due("what can be undone stays", x.size(8), 3);
        Check.due("and is undone", x.undo(), 2);
        Check.sentence("promise 36: (in place of one ahead)");
        x = notes(1);
        x.told(0, 1);
        x.keep();
        x.note();
        x.told(1, 2);
        Check.due("another", x.keep(), 2);
        x.undo();
        x.undo();
        x.forget();
        Check.due("the later one", x.back(), 2);
        Check.due("COUNTS told", x.size(7), 2);
        Check.due("keep what is there", x.forget() * 10 + x.keep(), 22);
        x.told(0, 1);
        Check.due("the latest one", x.back(), 2);
        Check.due("without COUNTS told", x.size(7), 0);
    }

    private static void back() {
        Check.sentence("promise 37: NONE: there is none");
        LongYears x = notes(2);
        Check.due("none", x.back(), NONE);
        Check.due("NOTES stay", x.size(4), 2);
        Check.due("what can be undone stays", x.size(8), 2);
        Check.sentence("promise 37: All is as in the IMAGE: how many NOTES");
        x.says(1, 5, 0);
        x.told(1, 4);
        x.told(0, 3);
        x.keep();
        x.undo();
        x.undo();
        x.undo();
        x.note();
        x.note();
        x.says(2, 3, 0);
        x.forget();
        x.told(0, 9);
        Check.due("back", x.back(), 2);
        Check.due("NOTES", x.size(4), 2);
        Check.due("COUNTS told", x.size(7), 2);
        three("a word", x, true, 1, 0, NONE, NONE);
        three("no word", x, true, 0, 20000, 0, 19999);
        Check.due("no LAND, no DAY", x.judged(), 0);
        Check.due("it said it already", x.says(1, 5, 0), false);
        Check.due("not another", x.says(2, 3, 0), true);
        Check.sentence("promise 37: (nothing to undo then)");
        Check.due("back", x.back(), 2);
        Check.due("what can be undone", x.size(8), 0);
        Check.due("undo", x.undo(), NONE);
        Check.due("NOTES by call stay", x.size(4), 2);
        x.note();
        Check.due("a new one can be", x.undo(), 0);
        Check.due("and no more", x.undo(), NONE);
        Check.due("the IMAGE stays", x.back(), 2);
        x = new LongYears();
        x.keep();
        x.note();
        Check.due("back to no NOTES", x.back(), 0);
        Check.due("no NOTE", x.says(1, 1, 0), false);
        Check.due("note()", x.note(), 0);
        x = notes(12);
        x.keep();
        x.back();
        Check.due("12 NOTES", x.note(), NONE);
        Check.due("a word more", x.says(1, 1, 0) ? x.size(8) : NONE, 1);
    }

    private static void imageOfAText() {
        Check.sentence("promise 3: no IMAGE then; with a FAULT, all stays");
        LongYears x = Check.told("note a;");
        x.keep();
        Check.due("a FAULT", Check.tell(x, "?"), NONE);
        Check.due("it stays", x.back(), 1);
        Check.due("-2", x.text(5), -2);
        Check.due("it stays", x.back(), 1);
        Check.due("a TEXT", Check.tell(x, "note a;"), 1);
        Check.due("it is gone", x.back(), NONE);
        x.keep();
        Check.due("another", x.back(), 1);
    }

    private static void size() {
        Check.sentence("promise 38: NONE for another what");
        LongYears x = Check.told("land a 9 0;land b 9 0;land c 9 0;land d 9 0;feast a 1;feast b 1;feast c 1 + 1;person a 1 1;"
                + "person b 1 1;deed a 1 1 days 1 pay 1;note a;note b;week 11 0;");
        for (int what : new int[] {-1, 9, 10, MIN, MAX}) {
            Check.due("size(" + what + ")", x.size(what), NONE);
        }
        Check.sentence("promise 38: 0 LANDS .. 8 what can be undone");
        x.note();
        x.says(1, 1, 0);
        x.says(2, 1, 0);
        x.told(0, 0);
        int[] due = {4, 3, 2, 1, 3, 5, 11, 1, 3};
        for (int what = 0; what < due.length; what++) {
            Check.due("size(" + what + ")", x.size(what), due[what]);
        }
        Check.sentence("promise 38: 6 the week's days (2 .. 30)");
        Check.due("2", Check.told("week 2 0;").size(6), 2);
        Check.due("30", Check.told("week 30 0;").size(6), 30);
        Check.due("without", Check.told("sun 8 1;").size(6), 7);
    }
}
