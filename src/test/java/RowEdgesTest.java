/** What "Terms" says of a ROW's text: a test for each of its words that names an edge. */
public final class RowEdgesTest {
    private static final Check CHECK = new Check();
    private static final String TWELVE = "000102030405060708090a0b";

    public static void main(String[] args) {
        formatsTo29();
        formatOfOneOrTwoDigits();
        formatBelow30();
        blanks();
        rankOfOneDigit();
        offsetFromTheStart();
        offsetFromTheEnd();
        oneToTwelvePlaces();
        signsOfAByte();
        anyByte();
        firstThatDoesNotFit();
        tooGreat();
        tooManyDigits();
        textsEnd();
        tooMuch();
        CHECK.end();
    }

    private static void right(String text) {
        CHECK.due("row of '" + text + "'", Check.row(new FormatRows(), text), 0);
    }

    private static void wrong(String text, int place) {
        CHECK.due("row of '" + text + "'", Check.row(new FormatRows(), text), -10 - place);
    }

    private static void formatsTo29() {
        CHECK.about("FORMATS are 0 .. 29, as rows tell them");
        FormatRows x = new FormatRows();
        int file = Check.file(x, 1);
        for (int f = 0; f < 30; f++) {
            int rank = f / 3;
            CHECK.due("row of format " + f, Check.row(x, f + " " + rank + " @0 01"), f);
            int want = f % 3 == 0 ? f : FormatRows.UNCLEAR;
            CHECK.due("identify by the first " + (f + 1) + " rows", x.identify(file), want);
        }
        CHECK.due("row of format 30", Check.row(x, "30 9 @0 01"), -10);
    }

    private static void formatOfOneOrTwoDigits() {
        CHECK.about("a format's number, 1 or 2 digits");
        wrong(" 1 @0 00", 0);
        right("2 1 @0 00");
        right("02 1 @0 00");
        right("00 1 @0 00");
        right("20 1 @0 00");
        wrong("002 1 @0 00", 0);
        wrong("/ 1 @0 00", 0);
        wrong(": 1 @0 00", 0);
        wrong("1/ 1 @0 00", 1);
        wrong("1: 1 @0 00", 1);
    }

    private static void formatBelow30() {
        CHECK.about("below 30");
        right("9 1 @0 00");
        right("10 1 @0 00");
        right("29 1 @0 00");
        wrong("30 1 @0 00", 0);
        wrong("99 1 @0 00", 0);
    }

    private static void blanks() {
        CHECK.about("a sign 32");
        for (int c : new int[] {0, 9, 10, 31, 33, 45, 64, 95, 160}) {
            wrong("1" + (char) c + "1 @0 00", 1);
            wrong("1 1" + (char) c + "@0 00", 3);
            wrong("1 1 @0" + (char) c + "00", 6);
        }
        right("1 1 @0 00");
        wrong("1  1 @0 00", 2);
        wrong("1 1  @0 00", 4);
        wrong("1 1 @0  00", 7);
    }

    private static void rankOfOneDigit() {
        CHECK.about("a RANK, one digit");
        for (int rank = 0; rank <= 9; rank++) {
            right("1 " + rank + " @0 00");
        }
        wrong("1 / @0 00", 2);
        wrong("1 : @0 00", 2);
        wrong("1 a @0 00", 2);
        wrong("1 -1 @0 00", 2);
        wrong("1 @0 00", 2);
    }

    private static void offsetFromTheStart() {
        CHECK.about("@ and an OFFSET, 1 to 3 digits");
        wrong("1 1 @ 00", 5);
        right("1 1 @0 00");
        right("1 1 @00 00");
        right("1 1 @000 00");
        right("1 1 @999 00");
        wrong("1 1 @0000 00", 5);
        wrong("1 1 0 00", 4);
        wrong("1 1 ? 00", 4);
        wrong("1 1 A0 00", 4);
        wrong("1 1 @@0 00", 5);
        wrong("1 1 @-0 00", 5);
        wrong("1 1 @0/ 00", 6);
        wrong("1 1 @0: 00", 6);
    }

    private static void offsetFromTheEnd() {
        CHECK.about("or - and an OFFSET");
        wrong("1 1 - 00", 5);
        right("1 1 -0 00");
        right("1 1 -00 00");
        right("1 1 -000 00");
        right("1 1 -999 00");
        wrong("1 1 -0000 00", 5);
        wrong("1 1 ,0 00", 4);
        wrong("1 1 .0 00", 4);
        wrong("1 1 +0 00", 4);
        wrong("1 1 --0 00", 5);
        wrong("1 1 -@0 00", 5);
    }

    private static void oneToTwelvePlaces() {
        CHECK.about("a PATTERN of 1 to 12 places");
        wrong("1 1 @0 ", 7);
        for (int places = 1; places <= 12; places++) {
            FormatRows x = new FormatRows();
            CHECK.due("row of " + places + " bytes", Check.row(x, "1 1 @0 " + "0b".repeat(places)), 0);
            CHECK.due("its last place", Check.pattern(x, 0, places - 1), 11);
            CHECK.due("row of " + places + " times ??", Check.row(x, "1 1 @0 " + "??".repeat(places)), 1);
            CHECK.due("its last place", Check.pattern(x, 1, places - 1), 256);
        }
        wrong("1 1 @0 " + "0b".repeat(13), 31);
        wrong("1 1 @0 " + "??".repeat(13), 31);
    }

    private static void signsOfAByte() {
        CHECK.about("each two signs of 0 .. 9, a .. f (a byte)");
        for (int b = 0; b < 256; b++) {
            FormatRows x = new FormatRows();
            Check.row(x, String.format("1 1 @0 %02x", b));
            CHECK.due("pattern of byte " + b, Check.pattern(x, 0, 0), b);
        }
        for (char c : new char[] {'/', ':', '@', '`', 'g', 'A', 'F', ' ', 0, 255}) {
            wrong("1 1 @0 " + c + "0", 7);
            wrong("1 1 @0 0" + c, 8);
        }
    }

    private static void anyByte() {
        CHECK.about("or ?? (any byte)");
        FormatRows x = new FormatRows();
        int file = x.file();
        CHECK.due("row of ??", Check.row(x, "1 1 -1 ??"), 0);
        CHECK.due("pattern of ??", Check.pattern(x, 0, 0), 256);
        for (int b : new int[] {0, 63, 127, 128, 255}) {
            x.octet(file, b);
            CHECK.due("?? meets byte " + b, x.meets(0, file), 1);
        }
        wrong("1 1 @0 ?0", 8);
        wrong("1 1 @0 0?", 8);
        wrong("1 1 @0 ?", 8);
        wrong("1 1 @0 ???", 10);
        wrong("1 1 @0 >>", 7);
        wrong("1 1 @0 @@", 7);
    }

    private static void firstThatDoesNotFit() {
        CHECK.about("WRONG at the first sign that does not fit");
        wrong("xxxxxxxxxxx", 0);
        wrong("1xxxxxxxxxx", 1);
        wrong("1 xxxxxxxxx", 2);
        wrong("1 1xxxxxxxx", 3);
        wrong("1 1 xxxxxxx", 4);
        wrong("1 1 @xxxxxx", 5);
        wrong("1 1 @1xxxxx", 6);
        wrong("1 1 @1 xxxx", 7);
        wrong("1 1 @1 0xxx", 8);
        wrong("1 1 @1 00xx", 9);
        wrong("1 1 @1 000x", 10);
    }

    private static void tooGreat() {
        CHECK.about("a number too great: at its first sign");
        wrong("30", 0);
        wrong("30 1 @0 00", 0);
        wrong("39x1 @0 00", 0);
        wrong("99 x @0 00", 0);
    }

    /** A RANK is a number too: of two digits it is WRONG at the first of them. */
    private static void tooManyDigits() {
        CHECK.about("or of too many digits: at its first sign");
        wrong("000 1 @0 00", 0);
        wrong("100 1 @0 00", 0);
        wrong("111111111111111111111111111111111 1 @0 00", 0);
        wrong("1 00 @0 00", 2);
        wrong("1 10 @0 00", 2);
        wrong("29 10 @0 00", 3);
        wrong("1 1 @0000 00", 5);
        wrong("1 1 @1000 00", 5);
        wrong("1 1 -0000 00", 5);
        wrong("29 1 -1000 00", 6);
        wrong("000", 0);
        wrong("1 00", 2);
        wrong("1 1 @0000", 5);
    }

    private static void textsEnd() {
        CHECK.about("the text's end, if more is wanted");
        for (String text : new String[] {"1 1 @0 00", "29 9 -999 ??", "05 0 @12 " + TWELVE}) {
            int least = text.lastIndexOf(' ') + 3;
            for (int length = 0; length <= text.length(); length++) {
                String start = text.substring(0, length);
                boolean whole = length >= least && (length - least) % 2 == 0;
                if (whole) {
                    right(start);
                } else {
                    wrong(start, length);
                }
            }
        }
    }

    private static void tooMuch() {
        CHECK.about("what is too much at its first sign");
        String full = "1 1 @0 " + TWELVE;
        wrong(full + "0", 31);
        wrong(full + "00", 31);
        wrong(full + "?", 31);
        wrong(full + "??", 31);
        wrong(full + " ", 31);
        wrong(full + "xyz", 31);
        wrong("29 9 -999 " + TWELVE + "00", 34);
        wrong("1 1 @0 00 ", 9);
        wrong("1 1 @0 00 00", 9);
        wrong("1 1 @0 00\n", 9);
        wrong("1 1 @0 00" + (char) 0, 9);
    }
}
