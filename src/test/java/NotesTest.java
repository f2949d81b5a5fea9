/** Promises 27 to 37: notes by call and undone, where they can be, counts told, images. */
public final class NotesTest {
    public static void main(String[] args) {
        notesByCall();
        saying();
        sayingWrong();
        undoing();
        alone();
        fitting();
        shifting();
        gaps();
        gapOfManyNotes();
        telling();
        judging();
        images();
        Check.end();
    }

    private static void notesByCall() {
        LongYears x = Check.told("note a;note b;");
        for (int i = 2; i < 12; i++) {
            Check.due("note()", x.note(), i);
        }
        Check.due("a thirteenth", x.note(), -1);
        Check.due("notes", x.size(4), 12);
        Check.due("steps", x.size(8), 10);
        Check.due("undone", x.undo(), 9);
        Check.due("once more", x.note(), 11);
        Check.due("it says nothing", x.alone(11, 0), 20000);
        x = Check.told("land l 10 0;note a day 1;note b day 2;");
        Check.tell(x, "");
        Check.tell(x, "note c;");
        Check.due("a note of a later text says nothing", x.alone(0, 0), 20000);
        Check.tell(x, "");
        Check.due("nor does one by call", x.note(), 0);
        Check.due("nor does one by call", x.alone(0, 0), 20000);
    }

    private static void saying() {
        LongYears x = Check.told("land l 10 0;person p 2 1 died 2 3;feast f day = 7;note a;");
        Check.due("a note of the text", x.says(1, 7, 0), true);
        Check.due("day 7", x.alone(0, 1), 6);
        x.note();
        Check.due("year", x.says(0, 3, 4), true);
        Check.due("first", x.alone(1, 1), 20);
        Check.due("last", x.alone(1, 2), 39);
        x.note();
        Check.due("week", x.says(2, 6, 99), true);
        Check.due("how many", x.alone(2, 0), 2857);
        x.note();
        Check.due("moon", x.says(3, 7, 0), true);
        Check.due("first", x.alone(3, 1), 26);
        x.note();
        Check.due("season", x.says(4, 3, 0), true);
        Check.due("first", x.alone(4, 1), 274);
        x.note();
        Check.due("alive", x.says(5, 0, 0), true);
        Check.due("born", x.alone(5, 1), 10);
        Check.due("dead", x.alone(5, 2), 12);
        x.note();
        Check.due("feast", x.says(6, 0, 0), true);
        Check.due("last", x.alone(6, 2), 19996);
        x.note();
        Check.due("after", x.says(7, 5, -10), true);
        Check.due("alone it is everywhere", x.alone(7, 0), 20000);
        Check.due("together three days", x.fits(7, 0), 3);
        Check.due("together from 0 on", x.fits(7, 1), 0);
        Check.due("together to 2", x.fits(7, 2), 2);
        Check.due("a week day that there is never", x.note(), 8);
        Check.due("can be said", x.says(2, 99999, 0), true);
        Check.due("on no count", x.alone(8, 0), 0);
        Check.due("none", x.alone(8, 1), -1);
        Check.due("none", x.alone(8, 2), -1);
    }

    private static void sayingWrong() {
        LongYears x = Check.told("land l 10 0;person p 2 1;feast f 1;");
        Check.due("no note", x.says(1, 1, 0), false);
        x.note();
        int[][] wrong = {{0, 0, 5}, {0, 5, 4}, {0, 1, 10000}, {0, 10000, 10000}, {1, 0, 0}, {1, 100000, 0}, {2, -1, 0},
            {2, 100000, 0}, {3, -1, 0}, {3, 8, 0}, {4, -1, 0}, {4, 4, 0}, {5, -1, 0}, {5, 1, 0}, {6, -1, 0}, {6, 1, 0},
            {7, 0, 0}, {7, -1, 0}, {7, 1, 0}, {8, 1, 1}, {-1, 1, 1}, {Integer.MAX_VALUE, 1, 1}, {Integer.MIN_VALUE, 1, 1},
            {33, 1, 1}, {32, 1, 1}};
        for (int[] one : wrong) {
            Check.due("says " + one[0] + " " + one[1] + " " + one[2], x.says(one[0], one[1], one[2]), false);
        }
        Check.due("nothing said", x.size(8), 1);
        x.note();
        Check.due("too many days after", x.says(7, 0, 10000), false);
        Check.due("too many days after", x.says(7, 0, -10000), false);
        Check.due("after itself", x.says(7, 1, 1), false);
        Check.due("most days after", x.says(7, 0, -9999), true);
        Check.due("undone", x.undo(), 2);
        Check.due("most days after", x.says(7, 0, 9999), true);
        Check.due("twice", x.says(7, 0, 1), false);
        int[][] right = {{0, 9999, 9999}, {1, 99999, -5}, {2, 0, 0}, {3, 0, 0}, {4, 0, 0}, {5, 0, 7}, {6, 0, 7}};
        for (int[] one : right) {
            Check.due("says " + one[0], x.says(one[0], one[1], one[2]), true);
            Check.due("says it twice " + one[0], x.says(one[0], one[1], one[2]), false);
        }
        Check.due("steps", x.size(8), 2 + 8);
    }

    private static void undoing() {
        LongYears x = Check.told("land l 10 0;note a day 3;note b day 4;");
        Check.due("nothing to undo", x.undo(), -1);
        Check.due("a word more of a note of the text", x.says(2, 3, 0), true);
        Check.due("fewer days", x.alone(1, 0), 286);
        Check.due("undone", x.undo(), 0);
        Check.due("all days", x.alone(1, 0), 2000);
        Check.due("the text's own words stay", x.undo(), -1);
        x.note();
        x.says(1, 5, 0);
        x.note();
        x.says(1, 6, 0);
        Check.due("undo the word", x.undo(), 3);
        Check.due("it says nothing", x.alone(3, 0), 20000);
        Check.due("another in its place", x.says(1, 7, 0), true);
        Check.due("first", x.alone(3, 1), 6);
        Check.due("undo the word", x.undo(), 3);
        Check.due("undo the note", x.undo(), 2);
        Check.due("no such note", x.alone(3, 0), -1);
        Check.due("the last note is the one ahead", x.says(2, 1, 0), true);
        x.undo();
        Check.due("a new note says nothing", x.note(), 3);
        Check.due("a new note says nothing", x.alone(3, 0), 20000);
        Check.due("undo", x.undo(), 2);
        Check.due("undo", x.undo(), 1);
        Check.due("undo", x.undo(), 0);
        Check.due("undo", x.undo(), -1);
        Check.due("notes", x.size(4), 2);
    }

    private static void alone() {
        LongYears x = Check.told("land l 3 -1 from 10;person p 1 1;person q 2 1 died 3 1;week 9 0;"
                + "note a year 2 9;note b year 4 9;note c alive p;note d alive q;note e day 2;note f alive q year 1 2;");
        int[][] due = {{3, 13, 15}, {0, -1, -1}, {19990, 10, 19999}, {3, 13, 15}, {2, 11, 14}, {2, 13, 14}};
        for (int note = 0; note < due.length; note++) {
            for (int what = 0; what <= 2; what++) {
                Check.due("alone " + note + " " + what, x.alone(note, what), due[note][what]);
            }
        }
        Check.due("no such what", x.alone(0, 3), -1);
        Check.due("no such what", x.alone(0, -1), -1);
        Check.due("no such note", x.alone(6, 0), -1);
        Check.due("no such note", x.alone(-1, 0), -1);
        x = Check.told("land l 1 0;note a year 5 5;note b year 6 7;");
        Check.due("one day", x.alone(0, 0), 1);
        Check.due("one day", x.alone(0, 1), 4);
        Check.due("two days", x.alone(1, 2), 6);
        Check.tell(x, "land l 1 0;note a year 8 9;");
        Check.due("another text", x.alone(0, 1), 7);
        x = Check.told("note a year 1 9999;note b day 1;");
        Check.due("no land, no year", x.alone(0, 0), 0);
        Check.due("no land, no day", x.alone(1, 0), 0);
        x = Check.told("land l 9999 99 from 19990;note a year 1 1;note b year 2 2;note c day 10;note d day 11;");
        Check.due("a year cut by the last count", x.alone(0, 0), 10);
        Check.due("a year behind it", x.alone(1, 0), 0);
        Check.due("the last count", x.alone(2, 2), 19999);
        Check.due("behind it", x.alone(3, 0), 0);
    }

    private static void fitting() {
        LongYears x = Check.told("land l 10 0;note a day 1 year 1 5;note b after a 3 week 3;note c day 2;");
        Check.due("a on 0, 10 .. 40; b on 3 alone", x.fits(0, 0), 1);
        Check.due("first", x.fits(0, 1), 0);
        Check.due("last", x.fits(0, 2), 0);
        Check.due("b", x.fits(1, 1), 3);
        Check.due("no such what", x.fits(0, 3), -1);
        Check.due("no such what", x.fits(0, -1), -1);
        Check.due("c is free", x.fits(2, 0), 2000);
        Check.due("c last", x.fits(2, 2), 19991);
        x.note();
        x.says(2, 99999, 0);
        for (int note = 0; note < 4; note++) {
            Check.due("one can't hold: none fits", x.fits(note, 0), 0);
            Check.due("one can't hold: none fits", x.fits(note, 1), -1);
            Check.due("one can't hold: none fits", x.fits(note, 2), -1);
        }
        Check.due("alone it can", x.alone(2, 0), 2000);
        Check.due("no such note", x.fits(4, 0), -1);
        Check.due("no such note", x.fits(-1, 0), -1);
        Check.due("no such what", x.fits(0, 3), -1);
        Check.due("no such what", x.fits(0, -1), -1);
    }

    private static void shifting() {
        LongYears x = Check.told("note a;note b after a 9999;note c after b 9999;note d after c - 9999;note e after a -1;");
        Check.due("a has room for 1: 1", x.fits(0, 1), 1);
        Check.due("a last", x.fits(0, 2), 1);
        Check.due("b", x.fits(1, 1), 10000);
        Check.due("c", x.fits(2, 2), 19999);
        Check.due("d", x.fits(3, 1), 10000);
        Check.due("e", x.fits(4, 1), 0);
        Check.due("all hold", x.gap(), 0);
        x.note();
        x.says(7, 2, 1);
        Check.due("f asks a to be on 0, e does not let it: all but d", x.gap(), 1 | 2 | 4 | 16 | 32);
        Check.due("none fits", x.fits(3, 0), 0);
    }

    private static void gaps() {
        LongYears x = Check.told("land l 10 0;week 10 0;note a day 1;note b after a 1;note c after b 1 day 4;note d after a 3 week 5;");
        Check.due("a, d (on 3 of ten) ahead of a, b, c", x.gap(), 1 | 8);
        x = Check.told("land l 10 0;week 10 0;note a day 1;note b after a 1;note c after b 1 day 4;");
        Check.due("a, b, c", x.gap(), 7);
        x.note();
        x.says(2, 10, 0);
        Check.due("one alone is the fewest", x.gap(), 8);
        x.note();
        x.says(2, 10, 0);
        Check.due("of several the least", x.gap(), 8);
        x.undo();
        x.undo();
        x.undo();
        x.undo();
        x.says(3, 1, 0);
        Check.due("c after one that isn't in the set is free", x.gap(), 7);
        x = Check.told("note a;note b after a 9999;note c after b 9999;note d after c 9999;");
        Check.due("no room for all", x.gap(), 15);
        x = new LongYears();
        Check.due("no notes", x.gap(), 0);
    }

    private static void gapOfManyNotes() {
        LongYears x = Check.told("land l 24 0;week 24 0;note a;");
        for (int i = 1; i < 12; i++) {
            x.note();
            x.says(7, 0, i);
        }
        Check.due("a star that holds", x.gap(), 0);
        x.says(2, 0, 0);
        Check.due("still", x.gap(), 0);
        Check.due("a on 13 and each week", x.fits(0, 1), 13);
        x.undo();
        x.undo();
        x.undo();
        x.note();
        x.says(7, 10, 9999);
        x.says(1, 1, 0);
        Check.due("a chain of three", x.gap(), 0);
        Check.due("its place", (x.fits(11, 1) - 9999 - 10) - x.fits(0, 1), 0);
        x = Check.told("land l 24 0;week 24 0;note a day 1;note b after a 1;note c after b 1;note d after c 1;note e after d 1;note f after e 1;");
        for (int i = 6; i < 12; i++) {
            x.note();
            x.says(7, i - 1, 1);
        }
        x.says(1, 13, 0);
        Check.due("all twelve", x.gap(), 4095);
    }

    private static void telling() {
        LongYears x = Check.told("note a;note b;");
        Check.due("nothing told", x.judged(), 0);
        for (int i = 1; i <= 20; i++) {
            Check.due("told", x.told(i % 2, i == 1 ? 0 : i == 2 ? 19999 : i), i);
        }
        Check.due("a twenty-first", x.told(0, 5), -1);
        Check.due("all can", x.judged(), 20);
        Check.due("size", x.size(7), 20);
        Check.due("forget", x.forget(), 20);
        Check.due("forget once more", x.forget(), 0);
        Check.due("size", x.size(7), 0);
        Check.due("no such count", x.told(0, -1), -1);
        Check.due("no such count", x.told(0, 20000), -1);
        Check.due("no such note", x.told(2, 0), -1);
        Check.due("no such note", x.told(-1, 0), -1);
        Check.due("told", x.told(1, 0), 1);
    }

    private static void judging() {
        LongYears x = Check.told("land l 10 0;note a day 1;note b after a 5;note c after b -2;");
        x.told(1, 77);
        Check.due("b without a told: can be", x.judged(), 1);
        x.told(0, 10);
        x.told(1, 15);
        Check.due("b after a", x.judged(), 3);
        x.told(0, 30);
        Check.due("a later a does not change an earlier b", x.judged(), 4);
        x.told(1, 35);
        x.told(2, 33);
        Check.due("by the latest", x.judged(), 6);
        x.told(2, 13);
        Check.due("by the latest alone", x.judged(), 6);
        x.told(0, 11);
        Check.due("the first that can't be", x.judged(), 6);
        x.forget();
        x.told(0, 11);
        Check.due("not day 1", x.judged(), 0);
        x.forget();
        x.note();
        x.told(3, 4);
        x.told(0, 3);
        Check.due("the second", x.judged(), 1);
        x.undo();
        Check.due("of a note that there is no more", x.judged(), 0);
        x.note();
        Check.due("there is one again", x.judged(), 1);
        x.says(1, 6, 0);
        Check.due("that says something else", x.judged(), 0);
    }

    private static void images() {
        LongYears x = Check.told("land l 10 0;note a day 1;");
        Check.due("no image", x.back(), -1);
        x.note();
        x.says(1, 2, 0);
        x.told(1, 1);
        Check.due("kept", x.keep(), 2);
        Check.due("can be undone still", x.size(8), 2);
        x.undo();
        x.says(1, 9, 0);
        x.note();
        x.told(2, 7);
        x.told(0, 0);
        Check.due("back", x.back(), 2);
        Check.due("notes", x.size(4), 2);
        Check.due("counts told", x.size(7), 1);
        Check.due("nothing to undo", x.size(8), 0);
        Check.due("nothing to undo", x.undo(), -1);
        Check.due("day 2 again", x.alone(1, 1), 1);
        Check.due("judged", x.judged(), 1);
        x.note();
        x.forget();
        Check.due("back once more", x.back(), 2);
        Check.due("counts told", x.size(7), 1);
        x.note();
        Check.due("another image in its place", x.keep(), 3);
        x.undo();
        x.undo();
        Check.due("back", x.back(), 3);
        Check.due("the last says a word more", x.says(0, 1, 1), true);
        Check.due("and it is undone", x.undo(), 0);
        x.undo();
        Check.due("it stays", x.size(4), 3);
        Check.due("a text with a fault", Check.tell(x, "x;"), -1);
        Check.due("the image stays", x.back(), 3);
        Check.due("a text", Check.tell(x, ""), 0);
        Check.due("no image", x.back(), -1);
        x = new LongYears();
        x.note();
        x.keep();
        x.says(2, 3, 0);
        Check.due("every seventh", x.alone(0, 1), 3);
        x.back();
        Check.due("all again", x.alone(0, 1), 0);
        x = new LongYears();
        Check.due("an image of nothing", x.keep(), 0);
        x.note();
        Check.due("back to it", x.back(), 0);
    }
}
