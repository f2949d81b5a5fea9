import java.util.NoSuchElementException;

/** Each sentence of Terms about the text that names a boundary, and those of promises 1 to 6. */
public final class EdgesOfTextTest {
    private static final int NONE = -1;
    private static final int MIN = Integer.MIN_VALUE;
    private static final int MAX = Integer.MAX_VALUE;
    private static final String LAND = "land l 9999 0;";

    public static void main(String[] args) {
        words();
        blanks();
        joinedSigns();
        numbersOfLands();
        numbersOfTheSky();
        numbersOfPeopleAndDeeds();
        numbersOfNotes();
        numbersOfRules();
        withoutALine();
        mostOfEachKind();
        names();
        tokensThatAreNone();
        tokensThatCantStand();
        endsTooEarly();
        endsAnywhere();
        numbersTooGreat();
        openBrackets();
        knots();
        toldAlready();
        notToldAhead();
        datesThatAreNot();
        twoFaultsOnOnePlace();
        firstAlongTheText();
        newObject();
        feed();
        textTooShort();
        textWithAFault();
        textWithout();
        textsInARow();
        fault();
        named();
        look();
        Check.end();
    }

    private static void fine(String text) {
        Check.fault(text, 0, NONE);
    }

    /** A text with a '^' ahead of the token with the fault. */
    private static void wrong(int fault, String text) {
        int place = text.indexOf('^');
        Check.fault(text.substring(0, place) + text.substring(place + 1), fault, place);
    }

    /** A number that stands where the text has '#': the least and the greatest may, the ones just outside may not. */
    private static void bounds(String text, int least, int most) {
        int place = text.indexOf('#');
        String[] around = {text.substring(0, place), text.substring(place + 1)};
        fine(around[0] + least + around[1]);
        fine(around[0] + most + around[1]);
        wrong(2, around[0] + "^" + (most + 1) + around[1]);
        wrong(2, around[0] + "^99999999999999999999" + around[1]);
        if (least > 0) {
            wrong(2, around[0] + "^" + (least - 1) + around[1]);
        } else {
            wrong(1, around[0] + "^" + around[1].trim());
        }
    }

    // ---- Terms

    private static void words() {
        Check.sentence("W: one of 1 .. 6 letters");
        fine("note a;");
        fine("note z;");
        fine("note abcdef;");
        wrong(1, "note ^abcdefg;");
        wrong(1, "note ^abcdefabcdef;");
        wrong(1, "note ^;");
        Check.sentence("W: .. none of those of the language");
        String[] words = ("land from week moon sun feast person died deed years days till pay note year day season alive "
                + "after or and not length").split(" ");
        for (String word : words) {
            wrong(1, "note ^" + word + ";");
            wrong(1, "feast f 1;note n feast ^" + word + ";");
            fine("note " + (word.length() < 6 ? word + "x" : "x" + word.substring(1)) + ";");
            fine("note " + (word.length() > 2 ? word.substring(0, word.length() - 1) : "o") + "q;");
        }
        Check.sentence("Words: small letters in a row");
        wrong(1, "note ^A;");
        wrong(1, "note a^B;");
        wrong(1, "note a^_b;");
        wrong(1, "note ^`;");
        wrong(1, "note ^{;");
        Check.sentence("N: digits");
        wrong(1, "land a ^/;");
        wrong(1, "land a ^:;");
        wrong(1, "land a 1^.5 1;");
        fine("land a 0000000000000000000000001 000;");
        fine("land a1 1;");
        wrong(1, "land a 1 ^x;");
    }

    private static void blanks() {
        Check.sentence("Blanks 10, 32");
        fine("\n \nland\na\n1\n1\n\n;\n \n");
        for (char sign : new char[] {0, 9, 11, 12, 13, 31, 33, 127, 128, 138, 160, 255}) {
            wrong(1, "land a 1 1^" + sign + ";");
            wrong(1, "^" + sign + "land a 1 1;");
        }
        wrong(1, "^la nd a 1 1;");
    }

    private static void joinedSigns() {
        Check.sentence("A = (or > behind <) right behind < or > belongs to it");
        value("1<=1", 1);
        value("1>=1", 1);
        value("1<>1", 0);
        value("1<(1)", 0);
        wrong(1, "feast f 1 < ^= 1;");
        wrong(1, "feast f 1 > ^= 1;");
        wrong(1, "feast f 1 < ^> 1;");
        wrong(1, "feast f 1<\n^=1;");
        wrong(1, "feast f 1>^<1;");
        wrong(1, "feast f 1>^>1;");
        wrong(1, "feast f 1<^<1;");
        wrong(1, "feast f 1=^=1;");
        wrong(1, "feast f 1=^<1;");
        wrong(1, "feast f 1=^>1;");
        wrong(1, "feast f 1<=^=1;");
        wrong(1, "feast f 1<>^=1;");
        wrong(1, "feast f 1>=^>1;");
        // the sign behind the text's end belongs to nothing
        LongYears x = new LongYears();
        Check.feed(x, "feast f 1<=1;".getBytes());
        Check.due("text(10)", x.text(10), NONE);
        Check.due("the text ends behind <", x.fault(1), 10);
    }

    private static void value(String rule, long value) {
        Check.due("rule " + rule, Check.told("feast f " + rule + ";").rule(0, 0), value);
    }

    private static void numbersOfLands() {
        Check.sentence("the first year's LENGTH 1 .. 9999");
        bounds("land a # 1;", 1, 9999);
        Check.sentence("by how many days each next one is longer, -99 .. 99");
        bounds("land a 1 #;", 0, 99);
        bounds("land a 1 -#;", 0, 99);
        bounds("land a 1 - #;", 0, 99);
        wrong(1, "land a 1 -^-1;");
        wrong(1, "land a 1 ^+1;");
        Check.sentence("the COUNT at which its first year begins, 0 .. 99999");
        bounds("land a 1 1 from #;", 0, 99999);
        wrong(1, "land a 1 1 from ^-1;");
    }

    private static void numbersOfTheSky() {
        Check.sentence("week: its days 2 .. 30");
        bounds("week # 1;", 2, 30);
        Check.sentence("which one COUNT 0 is, below that");
        bounds("week 2 #;", 0, 1);
        bounds("week 30 #;", 0, 29);
        Check.sentence("moon: N by N days (1 .. 9999 by 1 .. 99, 8 at least)");
        bounds("moon # 1 0;", 8, 9999, 1);
        bounds("moon 9999 # 0;", 1, 99);
        fine("moon 792 99 0;");
        wrong(2, "moon 791 ^99 0;");
        fine("moon 16 2 0;");
        wrong(2, "moon 15 ^2 0;");
        wrong(2, "moon 1 ^1 0;");
        wrong(2, "moon 1 ^99 0;");
        wrong(2, "moon 1 ^100 0;");
        Check.sentence("how many of the latter parts are over at COUNT 0, below the first");
        bounds("moon 8 1 #;", 0, 7);
        bounds("moon 9999 99 #;", 0, 9998);
        Check.sentence("sun: N by N days (1 .. 9999 by 1 .. 99, 8 at least)");
        bounds("sun # 1;", 8, 9999, 1);
        bounds("sun 9999 #;", 1, 99);
        fine("sun 792 99;");
        wrong(2, "sun 791 ^99;");
        fine("sun 16 2;");
        wrong(2, "sun 15 ^2;");
        wrong(2, "sun 1 ^1;");
        wrong(2, "sun 1 ^99;");
        wrong(2, "sun 1 ^100;");
    }

    /** A number of which one below the least that the next one lets through is a fault of that next one. */
    private static void bounds(String text, int least, int most, int next) {
        String ahead = text.substring(0, text.indexOf('#'));
        String behind = text.substring(text.indexOf('#') + 1);
        fine(ahead + least + behind);
        fine(ahead + most + behind);
        wrong(2, ahead + "^" + (most + 1) + behind);
        wrong(2, ahead + "^0" + behind);
        wrong(2, ahead + (least - 1) + " ^" + next + behind.substring(2));
    }

    private static void numbersOfPeopleAndDeeds() {
        Check.sentence("All other N 0 .. 99999 (year and day of a PERSON, of a DEED)");
        String grown = "land l 9999 99;";
        fine(grown + "person p 99999 99999;");
        wrong(2, grown + "person p ^100000 1;");
        wrong(2, grown + "person p 1 ^100000;");
        wrong(5, grown + "person p 0 ^1;");
        wrong(5, grown + "person p 1 ^0;");
        wrong(2, grown + "person p 1 1 died ^100000 1;");
        wrong(2, grown + "person p 1 1 died 1 ^100000;");
        fine(grown + "person p 1 1 died 99999 99999;");
        fine(grown + "deed d 99999 99999 days 1 pay 1;");
        wrong(2, grown + "deed d ^100000 1 days 1 pay 1;");
        wrong(2, grown + "deed d 1 ^100000 days 1 pay 1;");
        wrong(5, grown + "deed d 0 ^1 days 1 pay 1;");
        wrong(5, grown + "deed d 1 ^0 days 1 pay 1;");
        Check.sentence("a term: years 0 .. 999");
        bounds(LAND + "deed d 1 1 years # pay 1;", 0, 999);
        Check.sentence("days 0 .. 99999");
        bounds(LAND + "deed d 1 1 days # pay 1;", 0, 99999);
        Check.sentence("pay 0 .. 999 a year");
        bounds(LAND + "deed d 1 1 years 1 pay #;", 0, 999);
    }

    private static void numbersOfNotes() {
        Check.sentence("years from, to (1 .. 9999)");
        bounds("note n year # 9999;", 1, 9999);
        bounds("note n year 1 #;", 1, 9999);
        Check.sentence("to below from");
        fine("note n year 500 500;");
        wrong(2, "note n year 500 ^499;");
        wrong(2, "note n year 9999 ^1;");
        Check.sentence("day 1 .. 99999");
        bounds("note n day #;", 1, 99999);
        Check.sentence("(week 0 .. 99999)");
        bounds("note n week #;", 0, 99999);
        bounds("week 2 0;note n week #;", 0, 99999);
        Check.sentence("moon 0 .. 7");
        bounds("note n moon #;", 0, 7);
        Check.sentence("season 0 .. 3");
        bounds("note n season #;", 0, 3);
        Check.sentence("so many days (-9999 .. 9999) after a NOTE");
        bounds("note m;note n after m #;", 0, 9999);
        bounds("note m;note n after m -#;", 0, 9999);
        bounds("note m;note n after m - #;", 0, 9999);
    }

    private static void numbersOfRules() {
        Check.sentence("N of E 0 .. 9999");
        bounds("feast f #;", 0, 9999);
        bounds("feast f 1 + #;", 0, 9999);
        bounds("feast f (#);", 0, 9999);
        value("9999", 9999);
        value("0", 0);
        value("000009999", 9999);
    }

    private static void withoutALine() {
        Check.sentence("(0 without) from");
        Check.due("first COUNT", Check.told("land a 1 1;").look(0, 2), 0);
        Check.due("first COUNT", Check.told("land a 1 1 from 99999;").look(0, 2), 99999);
        LongYears x = Check.told("land a 1 1 from 7;");
        Check.tell(x, "land a 1 1;");
        Check.due("first COUNT of a later text", x.look(0, 2), 0);
        Check.sentence("(7 and 0 without) week");
        x = new LongYears();
        Check.due("days", x.size(6), 7);
        Check.due("day of 0", x.round(0, 0), 0);
        Check.due("day of 6", x.round(6, 0), 6);
        Check.due("day of 7", x.round(7, 0), 0);
        Check.sentence("59 by 2 without (0) moon");
        Check.due("moon of 0", x.round(0, 1), 0);
        Check.due("moon of 29", x.round(29, 1), 7);
        Check.due("moon of 30", x.round(30, 1), 0);
        Check.due("moon of 58", x.round(58, 1), 7);
        Check.due("moon of 59", x.round(59, 1), 0);
        Check.sentence("(.. 1461 by 4) sun");
        Check.due("season of 91", x.round(91, 2), 0);
        Check.due("season of 92", x.round(92, 2), 1);
        Check.due("season of 365", x.round(365, 2), 3);
        Check.due("season of 366", x.round(366, 2), 0);
        Check.due("season of 1460", x.round(1460, 2), 3);
        Check.due("season of 1461", x.round(1461, 2), 0);
        Check.sentence("a text without week, moon, sun: as without");
        x = Check.told("week 30 29;moon 8 1 7;sun 8 1;");
        Check.due("as told", x.size(6) * 1000 + x.round(0, 0) * 10 + x.round(0, 1), 30297);
        Check.tell(x, LAND);
        Check.due("days", x.size(6), 7);
        Check.due("day of 0", x.round(0, 0), 0);
        Check.due("moon of 0", x.round(0, 1), 0);
        Check.due("moon of 29", x.round(29, 1), 7);
        Check.due("season of 365", x.round(365, 2), 3);
    }

    private static void mostOfEachKind() {
        Check.sentence("LANDS, at most 4; a fifth land (at the word of the LINE)");
        most("", "land # 1 1;", 4, 0);
        Check.sentence("FEASTS, at most 4; a fifth");
        most("", "feast # 1;", 4, 1);
        Check.sentence("PEOPLE, at most 6; a seventh");
        most(LAND, "person # 1 1;", 6, 2);
        Check.sentence("DEEDS, at most 4; a fifth");
        most(LAND, "deed # 1 1 days 1 pay 1;", 4, 3);
        Check.sentence("NOTES, at most 6; a seventh");
        most("", "note #;", 6, 4);
    }

    private static void most(String ahead, String line, int most, int kind) {
        StringBuilder text = new StringBuilder(ahead);
        for (int i = 0; i < most; i++) {
            text.append(line.replace('#', (char) ('a' + i)));
        }
        fine(text.toString());
        LongYears x = Check.told(text.toString());
        Check.due("how many", x.size(kind), most);
        Check.due("the first is 0", x.named(kind, Check.letters("a")), 0);
        Check.due("the last", x.named(kind, Check.letters("" + (char) ('a' + most - 1))), most - 1);
        wrong(2, text + "^" + line.replace('#', 'z'));
        wrong(2, text + " ^" + line.substring(0, line.indexOf(' ')));
        wrong(2, text + "^" + line.replace('#', 'a'));
        wrong(2, text + "^" + line.replace('#', '?'));
        x = Check.told(text.toString());
        Check.due("once more", Check.tell(x, text.toString()) > 0, true);
    }

    private static void names() {
        Check.sentence("names of their kind: LANDS, FEASTS, PEOPLE, DEEDS, NOTES");
        LongYears x = Check.told("land a 9 0;feast a 1;person a 1 1;deed a 1 1 till a pay 1;"
                + "note a alive a feast a;note b after a 1;");
        for (int kind = 0; kind < 5; kind++) {
            Check.due("a of kind " + kind, x.named(kind, Check.letters("a")), 0);
        }
        wrong(3, "land a 9 0;feast a 1;person a 1 1;deed a 1 1 days 1 pay 1;note a;land ^a 9 0;");
    }

    private static void tokensThatAreNone() {
        Check.sentence("1 a TOKEN that is none");
        String[] texts = {"land a 1 1;", "week 7 0;", "moon 8 1 0;", "sun 8 1;", "feast f ( 1 + 2 ) < 3;",
            LAND + "person p 1 1 died 1 2;", LAND + "deed d 1 1 days 1 pay 1;", "note m;note n day 1 after m - 1;"};
        for (String text : texts) {
            for (int at = text.startsWith(LAND) ? LAND.length() : 0; at < text.length(); at++) {
                if (at == 0 || text.charAt(at - 1) == ' ' || text.charAt(at) == ';') {
                    for (String none : new String[] {"?", "A", "\t", "abcdefg", "\u0000", "\u00ff", "#", "!", "&"}) {
                        wrong(1, text.substring(0, at) + " ^" + none + " " + text.substring(at));
                    }
                }
            }
        }
        Check.sentence("(a word of more than 6 letters, too)");
        wrong(1, "^landabc a 1 1;");
        wrong(1, "land ^landabc 1 1;");
        wrong(1, "land a 1 1 ^fromabc 1;");
        wrong(1, "feast f ^seasons;");
        wrong(1, "note n feast ^abcdefg;");
        wrong(1, "note n;note o after ^abcdefg 1;");
        wrong(1, "^persons p 1 1;");
    }

    private static void tokensThatCantStand() {
        Check.sentence("or can't stand there");
        String[] texts = {"^;", "^from 3;", "^died;", "^a;", "^3;", "^(;", "land a 1 1;^;", "land ^1 1 1;", "land a ^b 1 1;",
            "land a ^-1 1;", "land a 1^;", "land a 1 1 ^1;", "land a 1 1 from 1 ^from 1;", "week ^a 7;", "week 7^;",
            "week 7 ^-1;", "week 7 0 ^0;", "moon 59 2^;", "moon 59 2 0 ^0;", "sun 8^;", "sun 8 1 ^0;", "feast ^(1);",
            "feast f^;", "feast f 1 ^2;", "feast f 1 ^day;", "feast f ^+ 1;", "feast f ^- 1;", "feast f 1 +^;",
            "feast f 1 + ^* 1;", "feast f (^);", "feast f (1^;", "feast f 1^);", "feast f ((1)^;", "feast f (1)^);",
            "feast f 1 = 1 ^= 1;", "feast f 1 < 1 + 1 ^>= 1;", "feast f not 1 = 1 ^<> 1;", "feast f 1 + ^not 1;",
            "feast f 1 = ^not 1;", "feast f 1 ^not 1;", "feast f not^;", "feast f ^and 1;", "feast f 1 or^;",
            "feast f 1 and ^or 1;", "feast f ^f;", "feast f ^years;", "feast f ^pay;", "feast f 1 ^pay;",
            LAND + "person p 1^;", LAND + "person p 1 1 ^1;", LAND + "person p 1 1 died^;",
            LAND + "person p 1 1 died 1^;", LAND + "person p 1 1 died 1 1 ^died 1 1;", LAND + "deed d 1 1 ^pay 1;",
            LAND + "deed d 1 1 years ^pay 1;", LAND + "deed d 1 1 years 1^;", LAND + "deed d 1 1 years 1 ^days 1 pay 1;",
            LAND + "deed d 1 1 till ^1 pay 1;", LAND + "deed d 1 1 days 1 pay^;", LAND + "deed d 1 1 days ^- 1 pay 1;",
            LAND + "deed d 1 1 ^year 1 pay 1;", "note^;", "note n ^land 1;", "note n ^years 1 1;",
            "note n year 1^;", "note n day^;", "note n day ^-1;", "note n day 1 ^1;", "note n alive ^1;",
            "note n feast ^day;", "note n after ^1 1;", "note m;note n after m^;", "note m;note n after m - ^- 1;"};
        for (String text : texts) {
            wrong(1, text);
        }
    }

    private static void endsTooEarly() {
        Check.sentence("(the length, if more must come)");
        String[] texts = {"land a 1 - 1 from 1 ;", "week 7 0 ;", "moon 8 1 0 ;", "sun 8 1 ;",
            "feast f not ( 1 + day ) < 3 and 1 or 2 ;", LAND + " person p 1 1 died 1 2 ;",
            LAND + " deed d 1 1 days 1 pay 1 ;", LAND + " feast f 1 ; deed d 1 1 till f pay 1 ;",
            LAND + " deed d 1 1 years 1 pay 1 ;",
            LAND + "feast f 1;person p 1 1;note m; note n year 1 2 day 1 week 1 moon 1 season 1 alive p feast f after m - 1 ;"};
        for (String text : texts) {
            for (int at = text.lastIndexOf(';', text.length() - 2) + 2; at < text.length(); at++) {
                if (text.charAt(at) == ' ' && text.charAt(at - 1) != ';') {
                    String cut = text.substring(0, at);
                    Check.fault(cut, 1, cut.length());
                    Check.fault(cut + " \n ", 1, cut.length() + 3);
                    // bytes of the tape behind the text do not matter
                    LongYears x = new LongYears();
                    Check.feed(x, text.getBytes());
                    Check.due("text of the first " + at + " of <" + text + ">", x.text(at), NONE);
                    Check.due("fault", x.fault(0), 1);
                    Check.due("place", x.fault(1), at);
                }
            }
        }
        fine("");
        fine(" \n");
        Check.fault("note a;n", 1, 7);
        Check.fault("note a;note", 1, 11);
    }

    private static void endsAnywhere() {
        Check.sentence("The TAPE's first n bytes are the TEXT: none behind them, wherever it ends");
        String text = "land abcdef 1234 - 12 from 12345;week 30 12;moon 5999 11 2222;sun 9999 88;feast fff 1234<=day;"
                + "feast ggg not(12<>34)>=week;person ppp 11 1111 died 12 1111;deed ddd 11 1111 years 123 pay 123;"
                + "note nnn year 1111 2222 week 1234;note mmm alive ppp feast fff after nnn 1234;";
        for (int at = 0; at <= text.length(); at++) {
            String cut = text.substring(0, at);
            PlainReader due = new PlainReader(cut);
            for (String behind : new String[] {"", text.substring(at), "7".repeat(20), "z".repeat(20), "=".repeat(20),
                ">".repeat(20), ";".repeat(20), "?".repeat(20)}) {
                LongYears x = new LongYears();
                Check.feed(x, (cut + behind).getBytes());
                String of = " of <" + cut + "> with <" + behind + "> behind it";
                Check.due("text" + of, x.text(at), due.lines);
                Check.due("fault" + of, x.fault(0), due.fault);
                Check.due("place" + of, x.fault(1), due.place);
            }
        }
    }

    private static void numbersTooGreat() {
        Check.sentence("2 too much (at it): a number beyond what is said");
        for (String number : new String[] {"100000", "1000000", "2147483647", "2147483648", "4294967296", "4294967297",
            "18446744073709551616", "18446744073709551617", "000100000", "1" + "0".repeat(300)}) {
            wrong(2, "land a ^" + number + " 1;");
            wrong(2, "land a 1 ^" + number + ";");
            wrong(2, "land a 1 1 from ^" + number + ";");
            wrong(2, "week ^" + number + " 1;");
            wrong(2, "feast f ^" + number + ";");
            wrong(2, "note n week ^" + number + ";");
            wrong(2, "person p ^" + number + " 1;");
        }
    }

    private static void openBrackets() {
        Check.sentence("a ninth '(' open");
        fine("feast f " + "(".repeat(8) + "1" + ")".repeat(8) + ";");
        wrong(2, "feast f " + "(".repeat(8) + "^(1" + ")".repeat(9) + ";");
        wrong(2, "feast f " + "(".repeat(8) + "^(");
        fine("feast f " + "((((((((1))))))))+((((((((1))))))))" + ";");
        fine("feast f " + "(((((((1)+(1))))))+((1)));");
        wrong(2, "feast f 1+(((((((1+(1)*(^(1))))))))));");
        fine("feast f ((((((((1))))))));feast g ((((((((1))))))));");
        wrong(2, "feast f ((((((((1))))))));feast g ((((((((^(1)))))))));");
        value("((((((((7))))))))", 7);
        value("1+(1+(1+(1+(1+(1+(1+(1+(1))))))))", 9);
        value("((((((((1)+1)+1)+1)+1)+1)+1)+1)+1", 9);
    }

    private static void knots() {
        Check.sentence("a 65th KNOT of all E (N, NAMES, signs, not, and, or: one each)");
        String full = "feast f 1" + "+1".repeat(31);
        LongYears x = Check.told(full + ";feast g day;");
        Check.due("64", x.size(5), 64);
        wrong(2, full + ";feast g 1 ^+ 1;");
        wrong(2, full + ";feast g 1;feast h ^1;");
        wrong(2, full + "+^1;");
        wrong(2, full + " and ^1;");
        wrong(2, full + " or ^day;");
        wrong(2, full + " < ^1;");
        for (String name : new String[] {"day", "year", "week", "moon", "season", "length", "0"}) {
            Check.due("one for " + name, Check.told("feast f " + name + ";").size(5), 1);
            wrong(2, full + ";feast g 1;feast h ^" + name + ";");
        }
        for (String sign : new String[] {"+", "-", "*", "/", "%", "<", "<=", "=", "<>", ">=", ">", "and", "or"}) {
            Check.due("three with " + sign, Check.told("feast f 1 " + sign + " 1;").size(5), 3);
            wrong(2, full + ";feast g 1 ^" + sign + " 1;");
        }
        Check.due("two with not", Check.told("feast f not 1;").size(5), 2);
        wrong(2, full + ";feast g not ^1;");
        wrong(2, full + ";feast g 1;feast h ^not 1;");
        wrong(2, "feast f " + "not ".repeat(64) + "^1;");
        wrong(2, "feast f " + "not ".repeat(64) + "^not 1;");
        Check.due("brackets are none", Check.told("feast f ((1));").size(5), 1);
        fine(full + ";feast g (((1)));");
        fine("feast f " + "not ".repeat(63) + "1;");
        fine("feast f 1;feast g 2;feast h 3;feast i 1" + "+1".repeat(30) + ";");
        x = Check.told(full + ";feast g 1;");
        Check.due("a later text has its own 64", Check.tell(x, full + ";feast g 1;"), 2);
        Check.due("none of a text with a fault", Check.tell(x, "feast f 1+1+1;x"), NONE);
        Check.due("64 still", x.size(5), 64);
    }

    private static void toldAlready() {
        Check.sentence("3 told already: a name of its kind (at W)");
        wrong(3, "land a 1 1;land b 1 1;land ^b 1 1;");
        wrong(3, "feast a 1;feast ^a 1;");
        wrong(3, LAND + "person a 1 1;person ^a 1 1;");
        wrong(3, LAND + "deed a 1 1 days 1 pay 1;deed ^a 1 1 days 1 pay 1;");
        wrong(3, "note a;note ^a;");
        wrong(3, "note abcdef;note ^abcdef;");
        fine("note abcdef;note abcde;note bcdef;note a;note aa;");
        Check.sentence("week, moon, sun (at the word)");
        wrong(3, "week 7 0;^week 7 0;");
        wrong(3, "moon 8 1 0;^moon 8 1 0;");
        wrong(3, "sun 8 1;^sun 8 1;");
        wrong(3, "sun 8 1;moon 8 1 0;week 7 0; ^sun");
        wrong(3, "sun 8 1;moon 8 1 0;week 7 0; ^moon");
        wrong(3, "sun 8 1;moon 8 1 0;week 7 0; ^week");
        LongYears x = Check.told("week 7 0;moon 8 1 0;sun 8 1;");
        Check.due("a later text tells them anew", Check.tell(x, "week 7 0;moon 8 1 0;sun 8 1;"), 3);
        Check.sentence("a word of a NOTE (at it); each word once at most");
        String said = LAND + "person p 1 1;feast f 1;note m;note n year 1 2 day 1 week 1 moon 1 season 1 alive p feast f after m 1";
        fine(said + ";");
        for (String word : new String[] {"year 1 2", "day 1", "week 1", "moon 1", "season 1", "alive p", "feast f", "after m 1"}) {
            wrong(3, said + " ^" + word + ";");
            fine(LAND + "person p 1 1;feast f 1;note m;note n " + word + ";");
            wrong(3, LAND + "person p 1 1;feast f 1;note m;note n " + word + " ^" + word + ";");
            fine(LAND + "person p 1 1;feast f 1;note m;note n " + word + ";note o " + word + ";");
        }
    }

    private static void notToldAhead() {
        Check.sentence("4 a FEAST, PERSON, NOTE that isn't told ahead (at W)");
        wrong(4, LAND + "deed d 1 1 till ^f pay 1;feast f 1;");
        wrong(4, "note n feast ^f;feast f 1;");
        wrong(4, LAND + "note n alive ^p;person p 1 1;");
        wrong(4, "note n after ^m 1;note m;");
        wrong(4, "note n after ^n 1;");
        wrong(4, "land a 1 1;note n feast ^a;");
        wrong(4, "feast a 1;note n alive ^a;");
        wrong(4, LAND + "person a 1 1;note n after ^a 1;");
        wrong(4, LAND + "note a;deed d 1 1 till ^a pay 1;");
        wrong(4, "feast f 1;note n feast ^ff;");
        LongYears x = Check.told("feast f 1;note m;");
        Check.due("of a text ahead", Check.tell(x, "note n feast f;"), NONE);
        Check.due("fault", x.fault(0), 4);
        Check.due("of a text ahead", Check.tell(x, "note n after m 1;"), NONE);
        Check.due("fault", x.fault(0), 4);
    }

    private static void datesThatAreNot() {
        Check.sentence("5 a year and day (of a PERSON, a DEED) that LAND 0 hasn't (at the day)");
        String shorter = "land l 5 -2 from 9;";
        for (String line : new String[] {"person p #;", "person p 1 1 died #;", "deed d # days 1 pay 1;"}) {
            for (String there : new String[] {"1 1", "1 5", "2 1", "2 3", "3 1"}) {
                fine(shorter + line.replace("#", there));
            }
            for (String not : new String[] {"0 ^1", "1 ^0", "1 ^6", "2 ^4", "3 ^2", "3 ^0", "4 ^1", "99999 ^99999"}) {
                wrong(5, shorter + line.replace("#", not));
            }
        }
        fine("land a 1 1;land l 5 5;person p 1 1;");
        wrong(5, "land a 1 1;land l 5 5;person p 1 ^2;");
        Check.sentence("or that died is ahead (at the day); on which they died, not ahead of it");
        fine(LAND + "person p 2 2 died 2 2;");
        fine(LAND + "person p 2 2 died 3 1;");
        wrong(5, LAND + "person p 2 2 died 2 ^1;");
        wrong(5, LAND + "person p 2 2 died 1 ^9999;");
        Check.sentence("also if no LAND is told ahead");
        wrong(5, "person p 1 ^1;");
        wrong(5, "person p 0 ^0;land a 1 1;");
        wrong(5, "deed d 1 ^1 days 1 pay 1;land a 1 1;");
        LongYears x = Check.told(LAND);
        Check.due("the LAND of a text ahead", Check.tell(x, "person p 1 1;"), NONE);
        Check.due("fault", x.fault(0), 5);
        Check.due("place", x.fault(1), 11);
    }

    private static void twoFaultsOnOnePlace() {
        Check.sentence("of one place the least");
        wrong(1, "land a 1 1 ^100000;");
        wrong(1, "feast f 1 ^100000;");
        wrong(1, "feast f 1 ^(((((((((1;");
        wrong(1, "feast f ((((((((1 ^(1;");
        wrong(1, "feast f " + "not ".repeat(64) + "^;");
        wrong(1, "feast f " + "not ".repeat(64) + "^pay;");
        wrong(1, "feast f 1" + "+1".repeat(31) + ";feast g 1 ^not 1;");
        wrong(1, "feast f 1" + "+1".repeat(31) + ";feast g 1 ^2;");
        wrong(1, "feast f 1" + "+1".repeat(29) + ";feast g 1;feast h 1=1 ^=1;");
        wrong(1, "feast f 1" + "+1".repeat(29) + ";feast g 1;feast h 1=1^);");
        wrong(2, "person p 1 ^100000;");
        wrong(1, "person p 1 ^x;");
        wrong(1, "person p 1^;");
        wrong(1, "person p 1 ^abcdefg;");
        wrong(2, LAND + "person p 2 2 died 1 ^100000;");
        wrong(1, LAND + "person p 2 2 died 1^;");
        wrong(1, "note n after ^day 1;");
        wrong(1, "note n after ^abcdefg 1;");
        wrong(2, "note n year 500 ^10000;");
        wrong(2, "note n year 500 ^0;");
        wrong(1, "note n year 500 ^day 0;");
        wrong(2, "moon 7 ^100 0;");
        wrong(1, "moon 7 ^x 0;");
        wrong(2, "moon 7 ^0 0;");
        wrong(1, "moon 7^;");
    }

    private static void firstAlongTheText() {
        Check.sentence("FAULTS, the first along the text");
        wrong(2, "land a ^0 100 from 100000;?");
        wrong(2, "land a 1 ^100 from 100000;?");
        wrong(2, "moon ^0 0 0;");
        wrong(2, "moon 7 ^1 9;");
        wrong(2, "week ^31 31;");
        wrong(3, "note a;note ^a day 0;");
        wrong(4, "note a feast ^f day 0;");
        wrong(2, "note a day ^0 feast f;");
        wrong(2, "note a day ^0 day 0;");
        wrong(5, "person p 1 ^1 died 1 1 1;");
        wrong(5, "deed d 1 ^1 till f pay 1;");
        wrong(4, LAND + "deed d 1 1 till ^f pay 1000;");
        wrong(2, LAND + "deed d 1 1 years ^1000 pay 1000;");
        wrong(1, "land a 1 1^?land a 1 1;");
        wrong(1, "feast f (1 ^2;");
    }

    // ---- promises 1 to 6

    private static void newObject() {
        Check.sentence("promise 1: A TEXT without LINES");
        LongYears x = new LongYears();
        for (int what = 0; what <= 8; what++) {
            Check.due("size(" + what + ")", x.size(what), what == 6 ? 7 : 0);
        }
        for (int kind = 0; kind < 5; kind++) {
            Check.due("named(" + kind + ", 0)", x.named(kind, 0), NONE);
        }
        Check.due("back()", x.back(), NONE);
        Check.sentence("promise 1: an empty TAPE");
        Check.due("text(1)", x.text(1), -2);
        Check.due("text(0)", x.text(0), 0);
        Check.due("feed", x.feed(0, 0, 0, 0, 0), 20);
        Check.due("a new one's tape is its own", new LongYears().text(1), -2);
    }

    private static void feed() {
        Check.sentence("promise 2: Twenty bytes come behind the TAPE, four of each number, the highest first");
        LongYears x = new LongYears();
        // "note abc;note d day " and "7;" with ones that are no tokens behind it
        x.feed(0x6e6f7465, 0x20616263, 0x3b6e6f74, 0x65206420, 0x64617920);
        x.feed(0x373b0000, -1, MIN, MAX, 0x80808080);
        Check.due("text(22)", x.text(22), 2);
        Check.due("abc", x.named(4, Check.letters("abc")), 0);
        Check.due("d", x.named(4, Check.letters("d")), 1);
        Check.sentence("promise 2: how many it has");
        x = new LongYears();
        for (int i = 1; i <= 44; i++) {
            Check.due("feed", x.feed(-1, -1, -1, -1, -1), 20 * i);
        }
        Check.sentence("promise 2: NONE, and none come, if it would have more than 900");
        Check.due("900 are not more", x.feed(-1, -1, -1, -1, -1), 900);
        Check.due("920", x.feed(-1, -1, -1, -1, -1), NONE);
        Check.due("text(901)", x.text(901), -2);
        Check.due("text(920)", x.text(920), -2);
        Check.due("once more", x.feed(-1, -1, -1, -1, -1), NONE);
        x = new LongYears();
        Check.feed(x, (" ".repeat(893) + "note a;").getBytes());
        Check.due("none come", x.feed(MAX, MAX, MAX, MAX, MAX), NONE);
        Check.due("text(900)", x.text(900), 1);
        Check.due("empty then", x.feed(1, 1, 1, 1, 1), 20);
        Check.fault(" ".repeat(893) + "note a;", 0, NONE);
        Check.fault(" ".repeat(894) + "note a", 1, 900);
    }

    private static void textTooShort() {
        Check.sentence("promise 3: -2, and the TAPE stays: there are not so many, n is below 0");
        LongYears x = new LongYears();
        Check.tell(x, "land a 0 1;");
        Check.feed(x, "note abc;note def;  ".getBytes());
        for (int n : new int[] {21, 40, 900, 901, MAX, -1, -2, MIN}) {
            Check.due("text(" + n + ")", x.text(n), -2);
            Check.due("the fault of the latest that was not -2", x.fault(0) * 10 + x.fault(1), 27);
        }
        Check.due("the tape stays", x.text(20), 2);
        Check.due("it is empty then", x.text(1), -2);
        Check.due("the text stays with -2", x.size(4), 2);
        Check.sentence("promise 3: The TAPE's first n bytes (it is empty then)");
        Check.feed(x, "note a;note b;note c".getBytes());
        Check.due("text(14)", x.text(14), 2);
        Check.due("the others are gone", x.text(1), -2);
        Check.feed(x, "note a;note b;note c".getBytes());
        Check.due("text(0)", x.text(0), 0);
        Check.due("all are gone", x.text(1), -2);
        Check.feed(x, "note a;note b;note c".getBytes());
        Check.due("text(5)", x.text(5), NONE);
        Check.due("all are gone with a fault, too", x.text(1), -2);
        Check.due("feed", x.feed(1, 1, 1, 1, 1), 20);
    }

    private static LongYears full() {
        LongYears x = Check.told("land a 7 1;land b 3 0;week 9 4;moon 8 1 3;sun 9 1;feast f day = 2;person p 2 3 died 3 1;"
                + "deed d 1 5 years 2 pay 3;note n day 5;note m after n 2;");
        x.note();
        x.says(1, 4, 0);
        x.told(0, 4);
        x.keep();
        x.note();
        x.told(2, 3);
        return x;
    }

    private static long[] allOf(LongYears x) {
        return new long[] {x.size(0), x.size(1), x.size(2), x.size(3), x.size(4), x.size(5), x.size(6), x.size(7),
            x.size(8), x.look(0, 0), x.look(0, 1), x.look(1, 0), x.round(0, 0), x.round(0, 1), x.round(5, 2),
            x.rule(0, 1), x.life(0, 0), x.life(0, 1), x.deed(0, 0, 1), x.deed(0, 0, 2), x.alone(0, 0), x.alone(2, 1),
            x.fits(1, 1), x.gap(), x.judged(), x.named(0, Check.letters("b")), x.named(4, Check.letters("m")),
            x.undo(), x.undo(), x.undo(), x.undo(), x.back(), x.size(7), x.size(4), x.alone(2, 1)};
    }

    private static void textWithAFault() {
        Check.sentence("promise 3: NONE with a FAULT, all stays");
        long[] due = allOf(full());
        String[] texts = {"x", "land z 9999 99;land y 1 1;week 2 0;moon 9999 9 0;sun 9999 9;feast g 0;person q 1 1;"
            + "deed e 1 1 days 9 pay 9;note o;note r;note s;note t;note u day 9;", "land", "note n day 6;note n"};
        for (String text : texts) {
            LongYears x = full();
            Check.due("text", Check.tell(x, text + (text.endsWith(";") ? "?" : "")), NONE);
            Check.due("fault", x.fault(0) > 0, true);
            long[] got = allOf(x);
            for (int i = 0; i < due.length; i++) {
                Check.due("answer " + i + " behind <" + text + ">", got[i], due[i]);
            }
        }
    }

    private static void textWithout() {
        Check.sentence("promise 3: (no NOTES by call, no COUNTS told, no IMAGE then)");
        for (String text : new String[] {"", " ", "note k;"}) {
            LongYears x = full();
            int notes = text.contains("note") ? 1 : 0;
            Check.due("text", Check.tell(x, text), notes);
            for (int what = 0; what <= 8; what++) {
                Check.due("size(" + what + ")", x.size(what), what == 6 ? 7 : what == 4 ? notes : 0);
            }
            Check.due("judged()", x.judged(), 0);
            Check.due("forget()", x.forget(), 0);
            Check.due("undo()", x.undo(), NONE);
            Check.due("back()", x.back(), NONE);
            Check.due("named", x.named(0, Check.letters("a")), NONE);
            Check.due("named", x.named(4, Check.letters("n")), NONE);
            Check.due("alone", x.alone(0, 0), notes == 1 ? 20000 : NONE);
        }
        Check.sentence("promise 3: how many LINES");
        Check.due("none", Check.tell(new LongYears(), "\n"), 0);
        Check.due("all of them", Check.tell(new LongYears(), "week 7 0;moon 8 1 0;sun 8 1;land a 1 1;feast f 1;"
                + "person p 1 1;deed d 1 1 days 1 pay 1;note n;"), 8);
    }

    /** What an object answers that has been told a text: some of all that there is to ask. */
    private static String answers(LongYears x) {
        StringBuilder all = new StringBuilder();
        x.note();
        x.says(2, 1, 0);
        for (int i = 0; i <= 8; i++) {
            all.append(x.size(i)).append(' ').append(x.round(17 * i, 0)).append(x.round(17 * i, 1)).append(x.round(99 * i, 2));
            all.append(' ').append(x.alone(i, 0)).append(' ').append(x.fits(i, 1)).append(' ').append(x.next(i, i + 1, i, i));
        }
        for (int i = 0; i < 4; i++) {
            all.append(i < x.size(0) ? " " + x.look(i, 0) + " " + x.look(i, 1) + " " + x.look(i, 2) : " none");
            all.append(' ').append(x.date(i, 33, 0)).append(' ').append(x.rule(i, 33)).append(' ').append(x.festive(i, 33));
            all.append(' ').append(x.life(i, 0)).append(' ').append(x.life(i, 1)).append(' ').append(x.deed(i, 0, 1));
            all.append(' ').append(x.deed(i, 0, 2)).append(' ').append(x.named(i, 1 << 25)).append(x.named(4, i + 1 << 25));
        }
        return all.append(x.gap()).append(' ').append(x.judged()).append(x.undo()).append(x.undo()).append(x.undo())
                .append(x.back()).append(x.feed(0, 0, 0, 0, 0)).toString();
    }

    private static void textsInARow() {
        Check.sentence("promise 3: The TAPE's first n bytes are the TEXT, whatever texts there were ahead");
        String[] texts = {"", "land a 9 1 from 7;land b 5 -1 from 3;week 9 4;moon 80 3 70;sun 99 2;",
            "land a 8 1;feast a day = 1;feast b year > 2 and week;person a 1 2 died 2 3;deed a 1 3 years 2 pay 7;"
            + "note a day 2;note b after a 3 week 2;note c alive a year 1 9;", "week 4 1;", "moon 59 2 1;", "sun 800 9;",
            "feast a not ((((((((1))))))));feast b 1" + "+1".repeat(30) + ";", "feast a week = 1;note b feast a season 1 moon 2;",
            "land a 9 0;person a 1 1;person b 2 1;deed b 1 1 days 9 pay 9;note a;note b;note c;note d;note e;note f;",
            "land a 9 9;land b 9 9;land c 9 9;land d 9 9 from 99;feast d 9;", "feast a ((((((((1 + not", "feast a 1 < (2 * (3 -",
            "note a day 1 week", "land a 9 9;person a 1 1 died 2 2;deed a 1 1 days 1 pay", "week 9 1;week 9 1;", "feast a 1 or 1 and not not"};
        for (String first : texts) {
            for (String second : texts) {
                for (String third : texts) {
                    LongYears fresh = new LongYears();
                    int lines = Check.tell(fresh, third);
                    if (lines < 0) {
                        continue;
                    }
                    LongYears x = new LongYears();
                    Check.tell(x, first);
                    Check.tell(x, second);
                    String of = " of <" + third + "> behind <" + first + "> and <" + second + ">";
                    Check.due("text" + of, Check.tell(x, third), lines);
                    Check.due("all answers" + of, answers(x).equals(answers(fresh)), true);
                }
            }
        }
    }

    private static void fault() {
        Check.sentence("promise 4: what 0: its FAULT (0), 1: its place (NONE without)");
        LongYears x = new LongYears();
        Check.tell(x, "note a;");
        Check.due("fault(0)", x.fault(0), 0);
        Check.due("fault(1)", x.fault(1), NONE);
        Check.tell(x, "?");
        Check.due("fault(0)", x.fault(0), 1);
        Check.due("fault(1)", x.fault(1), 0);
        Check.sentence("promise 4: Of the latest text() that was not -2");
        x.text(-1);
        x.text(1);
        Check.due("fault(0)", x.fault(0), 1);
        Check.due("fault(1)", x.fault(1), 0);
        Check.tell(x, "");
        Check.due("fault(0)", x.fault(0), 0);
        Check.due("fault(1)", x.fault(1), NONE);
        x.text(1);
        Check.due("fault(0)", x.fault(0), 0);
        Check.tell(x, "note a;note a;");
        Check.due("fault(0)", x.fault(0), 3);
        Check.due("fault(1)", x.fault(1), 12);
        Check.sentence("promise 4: NONE for another what");
        for (int what : new int[] {-1, 2, 3, MIN, MAX}) {
            Check.due("fault(" + what + ")", x.fault(what), NONE);
        }
    }

    private static void named() {
        Check.sentence("promise 5: by its letters, 5 bits each (a is 1; the first one highest of six, 0 behind the last one)");
        LongYears x = Check.told("note a;note z;note zzzzzz;note ab;note ba;note aaaaaa;");
        Check.due("a", x.named(4, 1 << 25), 0);
        Check.due("z", x.named(4, 26 << 25), 1);
        Check.due("zzzzzz", x.named(4, 26 << 25 | 26 << 20 | 26 << 15 | 26 << 10 | 26 << 5 | 26), 2);
        Check.due("ab", x.named(4, 1 << 25 | 2 << 20), 3);
        Check.due("ba", x.named(4, 2 << 25 | 1 << 20), 4);
        Check.due("aaaaaa", x.named(4, 1 << 25 | 1 << 20 | 1 << 15 | 1 << 10 | 1 << 5 | 1), 5);
        Check.sentence("promise 5: NONE: there is none such");
        for (int letters : new int[] {0, 1, 26, 1 << 20, 1 << 25 | 1, 3 << 25, 1 << 25 | 1 << 30, 1 << 25 | MIN, -1, MIN,
            MAX}) {
            Check.due("named(4, " + letters + ")", x.named(4, letters), NONE);
        }
        for (int what : new int[] {-1, 5, 6, MIN, MAX, 0, 1, 2, 3}) {
            Check.due("named(" + what + ", a)", x.named(what, 1 << 25), NONE);
        }
        x.note();
        Check.due("one by call", x.named(4, 0), NONE);
        Check.tell(x, "note q;");
        Check.due("of a text ahead", x.named(4, 1 << 25), NONE);
        Check.due("of this text", x.named(4, 17 << 25), 0);
    }

    private static void look() {
        Check.sentence("promise 6: what 0 the first LENGTH, 1 the growth, 2 its first COUNT");
        LongYears x = Check.told("land a 9999 99 from 99999;land b 1 -99 from 0;land c 1 0;land d 2 - 1 from 3;");
        int[][] due = {{9999, 99, 99999}, {1, -99, 0}, {1, 0, 0}, {2, -1, 3}};
        for (int land = 0; land < 4; land++) {
            for (int what = 0; what < 3; what++) {
                Check.due("look(" + land + ", " + what + ")", x.look(land, what), due[land][what]);
            }
        }
        Check.sentence("promise 6: IndexOutOfBoundsException: no such LAND");
        for (int land : new int[] {-1, 4, 5, MIN, MAX}) {
            Check.due("look(" + land + ", 0)", looked(x, land, 0), 1);
            Check.due("look(" + land + ", 3)", looked(x, land, 3), 1);
        }
        Check.due("of a new object", looked(new LongYears(), 0, 0), 1);
        Check.sentence("promise 6: NoSuchElementException: no such what");
        for (int what : new int[] {-1, 3, 4, MIN, MAX}) {
            Check.due("look(3, " + what + ")", looked(x, 3, what), 2);
        }
    }

    private static int looked(LongYears x, int land, int what) {
        try {
            x.look(land, what);
        } catch (IndexOutOfBoundsException e) {
            return e.getClass() == IndexOutOfBoundsException.class ? 1 : 3;
        } catch (NoSuchElementException e) {
            return e.getClass() == NoSuchElementException.class ? 2 : 4;
        }
        return 0;
    }
}
