/** Promises 1 to 6 and 38: the tape, the text, its faults, names, what is told. */
public final class TextTest {
    public static void main(String[] args) {
        newObject();
        tape();
        texts();
        tokens();
        tokenFaults();
        landFaults();
        skyFaults();
        ruleFaults();
        dateFaults();
        noteFaults();
        countFaults();
        names();
        looks();
        sizes();
        Check.end();
    }

    private static void newObject() {
        LongYears x = new LongYears();
        for (int what = 0; what <= 8; what++) {
            Check.due("size of a new one " + what, x.size(what), what == 6 ? 7 : 0);
        }
        Check.due("fault of a new one", x.fault(0), 0);
        Check.due("place of a new one", x.fault(1), -1);
        Check.due("text(1) of an empty tape", x.text(1), -2);
        Check.due("text(0) of an empty tape", x.text(0), 0);
        Check.due("sun of a new one", x.round(366, 2), 0);
        Check.due("sun of a new one", x.round(365, 2), 3);
    }

    private static void tape() {
        LongYears x = new LongYears();
        for (int i = 1; i <= 45; i++) {
            Check.due("feed " + i, x.feed(0x20202020, 0x20202020, 0x20202020, 0x20202020, 0x0a0a0a0a), 20 * i);
        }
        Check.due("feed beyond 900", x.feed(1, 1, 1, 1, 1), -1);
        Check.due("text(901)", x.text(901), -2);
        Check.due("text(-1)", x.text(-1), -2);
        Check.due("text(min)", x.text(Integer.MIN_VALUE), -2);
        Check.due("the tape stays", x.feed(1, 1, 1, 1, 1), -1);
        Check.due("text of blanks", x.text(900), 0);
        Check.due("the tape is empty then", x.feed(1, 1, 1, 1, 1), 20);
        Check.due("text(0) empties it", x.text(0), 0);
        Check.due("feed", x.feed(0x6c616e64, 0x20612033, 0x20303b2d, -1, -1), 20);
        Check.due("text of the first bytes alone", x.text(11), 1);
        Check.due("the rest is gone", x.feed(1, 1, 1, 1, 1), 20);
    }

    private static void texts() {
        LongYears x = Check.told("land a 3 1;land b 4 0;note n day 1;");
        x.note();
        x.told(0, 0);
        x.keep();
        Check.due("text with a fault", Check.tell(x, "land a 3 1;week 9;"), -1);
        Check.due("fault", x.fault(0), 1);
        Check.due("place", x.fault(1), 17);
        Check.due("other what", x.fault(2), -1);
        Check.due("other what", x.fault(-1), -1);
        Check.due("lands stay", x.size(0), 2);
        Check.due("notes stay", x.size(4), 2);
        Check.due("counts stay", x.size(7), 1);
        Check.due("what can be undone stays", x.size(8), 1);
        Check.due("the image stays", x.back(), 2);
        Check.due("text(-1) leaves the fault", x.text(-1), -2);
        Check.due("fault", x.fault(0), 1);
        x.note();
        Check.due("a text without a fault", Check.tell(x, "week 5 1;"), 1);
        Check.due("fault", x.fault(0), 0);
        Check.due("place", x.fault(1), -1);
        Check.due("no lands", x.size(0), 0);
        Check.due("no notes", x.size(4), 0);
        Check.due("no counts", x.size(7), 0);
        Check.due("nothing to undo", x.size(8), 0);
        Check.due("no image", x.back(), -1);
        Check.due("a week", x.size(6), 5);
        Check.due("an empty text", x.text(0), 0);
        Check.due("the week without one told", x.size(6), 7);
        Check.due("week day without one told", x.round(0, 0), 0);
    }

    private static void tokens() {
        Check.fault("land a3 1;", 0, -1);
        Check.fault("land a 3-1;", 0, -1);
        Check.fault("land a 003 0001;", 0, -1);
        Check.fault("\nland\na\n3\n1\n;\n", 0, -1);
        Check.fault("feast a 1<=2;feast b 1<>2;feast c(1)>=2;", 0, -1);
        Check.fault("feast a 1< =2;", 1, 11);
        Check.fault("feast a 1=<2;", 1, 10);
        Check.fault("feast a 1><2;", 1, 10);
        Check.fault("feast a 1<=>2;", 1, 11);
        Check.fault("land land 3 1;", 1, 5);
        Check.fault("land length 3 1;", 1, 5);
        Check.fault("land lengt 3 1;", 0, -1);
        Check.fault("land lands 3 1;", 0, -1);
        Check.fault("land abcdef 3 1;", 0, -1);
        for (String word : ("land from week moon sun feast person died deed years days till pay note year day season "
                + "alive after or and not length").split(" ")) {
            Check.fault("note " + word + ";", 1, 5);
        }
    }

    private static void tokenFaults() {
        Check.fault("land abcdefg 3 1;", 1, 5);
        Check.fault("landabc 3 1;", 1, 0);
        Check.fault("land a 3 1", 1, 10);
        Check.fault("land a 3 1  \n", 1, 13);
        Check.fault("land", 1, 4);
        Check.fault(";", 1, 0);
        Check.fault("land a 3 1;;", 1, 11);
        Check.fault("land a 3 1 from;", 1, 15);
        Check.fault("land a 3 - - 1;", 1, 11);
        Check.fault("land a - 3 1;", 1, 7);
        Check.fault("Land a 3 1;", 1, 0);
        Check.fault("land a 3 1\t;", 1, 10);
        Check.fault("land a 3 1\u00e9;", 1, 10);
        Check.fault("week 7;", 1, 6);
        Check.fault("week 7 1 2;", 1, 9);
        Check.fault("moon 59 2;", 1, 9);
        Check.fault("sun 59 2 1;", 1, 9);
        Check.fault("from 3;", 1, 0);
        Check.fault("a;", 1, 0);
        Check.fault("3;", 1, 0);
        Check.fault("land a 3 1;deed d 1 1 pay 3;", 1, 22);
        Check.fault("land a 3 1;deed d 1 1 years 3;", 1, 29);
        Check.fault("land a 3 1;deed d 1 1 till day pay 3;", 1, 27);
        Check.fault("land a 3 1;person p 1 1 died 2;", 1, 30);
        Check.fault("note n year 1;", 1, 13);
        Check.fault("note n land 1;", 1, 7);
        Check.fault("note n after 1;", 1, 13);
        Check.fault("note n alive year 1;", 1, 13);
    }

    private static void landFaults() {
        Check.fault("land a 9999 99 from 99999;", 0, -1);
        Check.fault("land a 1 -99;", 0, -1);
        Check.fault("land a 10000 1;", 2, 7);
        Check.fault("land a 0 1;", 2, 7);
        Check.fault("land a 1 -100;", 2, 10);
        Check.fault("land a 1 100;", 2, 9);
        Check.fault("land a 1 1 from 100000;", 2, 16);
        Check.fault("land a 99999999999999999999999999 1;", 2, 7);
        Check.fault("land a 4294967297 1;", 2, 7);
        Check.fault("land a 1 1;feast a 1;land a 1 1;", 3, 26);
    }

    private static void skyFaults() {
        Check.fault("week 2 1;moon 8 1 7;sun 8 1;", 0, -1);
        Check.fault("week 30 29;moon 9999 99 9998;sun 9999 99;", 0, -1);
        Check.fault("week 1 0;", 2, 5);
        Check.fault("week 31 0;", 2, 5);
        Check.fault("week 30 30;", 2, 8);
        Check.fault("moon 0 1 0;", 2, 5);
        Check.fault("moon 10000 1 0;", 2, 5);
        Check.fault("moon 16 2 15;", 0, -1);
        Check.fault("moon 15 2 0;", 2, 8);
        Check.fault("moon 9999 100 0;", 2, 10);
        Check.fault("moon 9999 0 0;", 2, 10);
        Check.fault("moon 59 2 59;", 2, 10);
        Check.fault("sun 0 1;", 2, 4);
        Check.fault("sun 10000 1;", 2, 4);
        Check.fault("sun 7 1;", 2, 6);
        Check.fault("sun 800 100;", 2, 8);
        Check.fault("sun 8 1;moon 8 1 0;sun 8 1;", 3, 19);
        Check.fault("moon 8 1 0;sun 8 1;moon 8 1 0;", 3, 19);
    }

    private static void ruleFaults() {
        Check.fault("feast a ((((((((1))))))));", 0, -1);
        Check.fault("feast a (((((((((1)))))))));", 2, 16);
        Check.fault("feast a ((((((((1))))))))+((((((((1))))))));", 0, -1);
        Check.fault("feast a 9999;", 0, -1);
        Check.fault("feast a 10000;", 2, 8);
        Check.fault("feast a;", 1, 7);
        Check.fault("feast a x;", 1, 8);
        Check.fault("feast a pay;", 1, 8);
        Check.fault("feast a 1 2;", 1, 10);
        Check.fault("feast a 1 +;", 1, 11);
        Check.fault("feast a - 1;", 1, 8);
        Check.fault("feast a ();", 1, 9);
        Check.fault("feast a (1;", 1, 10);
        Check.fault("feast a 1);", 1, 9);
        Check.fault("feast a (1", 1, 10);
        Check.fault("feast a 1 < 2 < 3;", 1, 14);
        Check.fault("feast a 1 = 2 + 3 <> 3;", 1, 18);
        Check.fault("feast a not 1 = 2 = 3;", 1, 18);
        Check.fault("feast a (1 < 2) < 3;", 0, -1);
        Check.fault("feast a 1 < (2 < 3);", 0, -1);
        Check.fault("feast a 1 < 2 and 2 < 3 or 4 > 5;", 0, -1);
        Check.fault("feast a not not 1;", 0, -1);
        Check.fault("feast a 1 and not 1 or not 1;", 0, -1);
        Check.fault("feast a 1 = not 1;", 1, 12);
        Check.fault("feast a 1 + not 1;", 1, 12);
        Check.fault("feast a 1 * not 1;", 1, 12);
        Check.fault("feast a 1 = (not 1);", 0, -1);
        Check.fault("feast a 1 not 1;", 1, 10);
        Check.fault("feast a not;", 1, 11);
        Check.fault("feast a 1 and;", 1, 13);
        Check.fault("feast a day(1);", 1, 11);
        knots();
    }

    private static void knots() {
        StringBuilder sum = new StringBuilder("feast a 1");
        for (int i = 0; i < 31; i++) {
            sum.append("+1");
        }
        Check.fault(sum + ";", 0, -1);
        Check.fault(sum + ";feast b 1;", 0, -1);
        Check.fault(sum + ";feast b (1);feast c day;", 2, sum.length() + 21);
        Check.fault(sum + "+1;", 2, sum.length() + 1);
        Check.fault(sum + "+;", 1, sum.length() + 1);
        Check.fault(sum + "1;", 0, -1);
        String nots = "not ".repeat(63);
        Check.fault("feast a " + nots + "1;", 0, -1);
        Check.fault("feast a not " + nots + "1;", 2, 8 + 64 * 4);
        Check.fault("feast a not not " + nots + "1;", 2, 8 + 64 * 4);
        Check.fault("feast a " + nots + "1 < 1;", 2, 8 + 63 * 4 + 2);
        LongYears x = Check.told("feast a (1 + day) % 3 <> 0;feast b not (day <= 1) or 1 and (2);");
        Check.due("knots, brackets are none", x.size(5), 7 + 8);
    }

    private static void dateFaults() {
        Check.fault("person p 1 1;", 5, 11);
        Check.fault("deed d 1 1 years 1 pay 1;land a 3 1;", 5, 9);
        Check.fault("land a 3 1;person p 1 3;", 0, -1);
        Check.fault("land a 3 1;person p 1 4;", 5, 22);
        Check.fault("land a 3 1;person p 0 1;", 5, 22);
        Check.fault("land a 3 1;person p 1 0;", 5, 22);
        Check.fault("land a 3 1;person p 99999 99999;", 0, -1);
        Check.fault("land a 3 1;person p 100000 1;", 2, 20);
        Check.fault("land a 3 1;person p 1 100000;", 2, 22);
        Check.fault("land a 3 -1;person p 3 1;", 0, -1);
        Check.fault("land a 3 -1;person p 4 1;", 5, 23);
        Check.fault("land a 3 1;person p 2 2 died 2 2;", 0, -1);
        Check.fault("land a 3 1;person p 2 2 died 2 1;", 5, 31);
        Check.fault("land a 3 1;person p 2 2 died 1 3;", 5, 31);
        Check.fault("land a 3 1;person p 2 2 died 3 6;", 5, 31);
        Check.fault("land a 3 1;deed d 1 4 days 1 pay 1;", 5, 20);
        Check.fault("land a 3 1;deed d 1 3 days 99999 pay 999;", 0, -1);
        Check.fault("land a 3 1;deed d 1 3 days 100000 pay 1;", 2, 27);
        Check.fault("land a 3 1;deed d 1 3 years 999 pay 0;", 0, -1);
        Check.fault("land a 3 1;deed d 1 3 years 1000 pay 1;", 2, 28);
        Check.fault("land a 3 1;deed d 1 3 years 9 pay 1000;", 2, 34);
        Check.fault("land a 3 1;deed d 1 3 till f pay 1;feast f 1;", 4, 27);
        Check.fault("land a 3 1;feast f 1;deed d 1 3 till f pay 1;", 0, -1);
        Check.fault("land a 3 1;land f 3 1;deed d 1 3 till f pay 1;", 4, 38);
    }

    private static void noteFaults() {
        Check.fault("note n year 1 9999 day 99999 week 99999 moon 7 season 3;", 0, -1);
        Check.fault("note n year 0 1;", 2, 12);
        Check.fault("note n year 1 10000;", 2, 14);
        Check.fault("note n year 5 4;", 2, 14);
        Check.fault("note n year 5 5;", 0, -1);
        Check.fault("note n day 0;", 2, 11);
        Check.fault("note n day 100000;", 2, 11);
        Check.fault("note n week 100000;", 2, 12);
        Check.fault("note n moon 8;", 2, 12);
        Check.fault("note n season 4;", 2, 14);
        Check.fault("note n day 1 week 1 day 1;", 3, 20);
        Check.fault("note n;note n;", 3, 12);
        Check.fault("note n alive p;", 4, 13);
        Check.fault("note n feast f;", 4, 13);
        Check.fault("note n after n 1;", 4, 13);
        Check.fault("note n;note m after n 9999;note o after m -9999;", 0, -1);
        Check.fault("note n;note m after n 10000;", 2, 22);
        Check.fault("note n;note m after n -10000;", 2, 23);
        Check.fault("note n;note m after n 1 after n 1;", 3, 24);
        Check.fault("land a 3 1;person p 1 1;feast f 1;note n alive p feast f year 1 2;", 0, -1);
    }

    private static void countFaults() {
        String lands = "land a 3 1;land b 3 1;land c 3 1;land d 3 1;";
        Check.fault(lands, 0, -1);
        Check.fault(lands + "land a", 2, lands.length());
        String feasts = "feast a 1;feast b 1;feast c 1;feast d 1;";
        Check.fault(feasts, 0, -1);
        Check.fault(feasts + "feast e 1;", 2, feasts.length());
        StringBuilder people = new StringBuilder("land a 3 1;");
        StringBuilder notes = new StringBuilder();
        for (char name = 'a'; name < 'g'; name++) {
            people.append("person ").append(name).append(" 1 1;");
            notes.append("note ").append(name).append(";");
        }
        Check.fault(people.toString(), 0, -1);
        Check.fault(people + "person g 1 1;", 2, people.length());
        Check.fault(notes.toString(), 0, -1);
        Check.fault(notes + "note g;", 2, notes.length());
        String deeds = "land a 3 1;" + "deed a 1 1 days 1 pay 1;deed b 1 1 days 1 pay 1;deed c 1 1 days 1 pay 1;"
                + "deed d 1 1 days 1 pay 1;";
        Check.fault(deeds, 0, -1);
        Check.fault(deeds + "deed e", 2, deeds.length());
    }

    private static void names() {
        LongYears x = Check.told("land a 3 1;land zzzzzz 3 1;feast a 1;feast b 1;person ab 1 1;"
                + "deed a 1 1 days 1 pay 1;note ba;note ab;");
        Check.due("land a", x.named(0, Check.letters("a")), 0);
        Check.due("land a by its number", x.named(0, 1 << 25), 0);
        Check.due("land zzzzzz", x.named(0, Check.letters("zzzzzz")), 1);
        Check.due("feast b", x.named(1, Check.letters("b")), 1);
        Check.due("land b", x.named(0, Check.letters("b")), -1);
        Check.due("person ab", x.named(2, Check.letters("ab")), 0);
        Check.due("deed a", x.named(3, Check.letters("a")), 0);
        Check.due("note ab", x.named(4, Check.letters("ab")), 1);
        Check.due("a low", x.named(0, 1), -1);
        Check.due("no letters", x.named(0, 0), -1);
        Check.due("a sign below", x.named(0, 1 << 25 | 1 << 31), -1);
        Check.due("what 5", x.named(5, Check.letters("a")), -1);
        Check.due("what -1", x.named(-1, Check.letters("a")), -1);
        x.note();
        Check.due("a note by call has no name", x.named(4, 0), -1);
    }

    private static void looks() {
        LongYears x = Check.told("land a 3 1;land b 9 -7 from 12;");
        Check.due("look", x.look(0, 0), 3);
        Check.due("look", x.look(0, 1), 1);
        Check.due("look", x.look(0, 2), 0);
        Check.due("look", x.look(1, 0), 9);
        Check.due("look", x.look(1, 1), -7);
        Check.due("look", x.look(1, 2), 12);
        looksWrong(x, 2, 0, true);
        looksWrong(x, -1, 0, true);
        looksWrong(x, 2, 3, true);
        looksWrong(x, 0, 3, false);
        looksWrong(x, 0, -1, false);
    }

    private static void looksWrong(LongYears x, int land, int what, boolean index) {
        int got = 0;
        try {
            x.look(land, what);
        } catch (IndexOutOfBoundsException e) {
            got = 1;
        } catch (java.util.NoSuchElementException e) {
            got = 2;
        }
        Check.due("look(" + land + ", " + what + ")", got, index ? 1 : 2);
    }

    private static void sizes() {
        LongYears x = Check.told("land a 3 1;land b 3 1;land c 3 1;feast f day = 1;feast g week;person p 1 1;"
                + "deed d 1 1 days 1 pay 1;deed e 1 1 days 1 pay 1;note n;note m;week 9 3;");
        int[] due = {3, 2, 1, 2, 2, 4, 9, 0, 0};
        for (int what = 0; what < due.length; what++) {
            Check.due("size " + what, x.size(what), due[what]);
        }
        x.note();
        x.says(1, 3, 0);
        x.told(2, 17);
        Check.due("notes", x.size(4), 3);
        Check.due("counts told", x.size(7), 1);
        Check.due("can be undone", x.size(8), 2);
        Check.due("size 9", x.size(9), -1);
        Check.due("size -1", x.size(-1), -1);
    }
}
