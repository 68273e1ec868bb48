/** What the document's "What it is" and "Terms" say beside a ROW's text: a test for each edge. */
public final class TermEdgesTest {
    private static final Check CHECK = new Check();
    private static final int[] NO_FORMATS = {-1, -5, 30, Integer.MIN_VALUE, Integer.MAX_VALUE};

    public static void main(String[] args) {
        fiveHundredAndTwelveCalls();
        formatsTo29();
        lastFourBytes();
        allLieInTheFile();
        haveTheseBytes();
        filesTo39();
        sixtyBytes();
        memberOfOne();
        noneOfItself();
        firstRows();
        greatestRank();
        eachOnceByNumbers();
        oneFormat();
        noFormat();
        withoutBytes();
        moreFormats();
        hasMembers();
        firstOfAContainerRow();
        wantedDeepFormat();
        latestThatHolds();
        noneHolds();
        lookedInto();
        depthThree();
        asLongAsOutOfDate();
        rings();
        CHECK.end();
    }

    private static void fiveHundredAndTwelveCalls() {
        CHECK.about("at most 512 calls");
        FormatRows x = new FormatRows();
        int calls = "29 9 -60 00".length() + 1;
        Check.row(x, "29 9 -60 00");
        for (int file = 0; file < 8; file++, calls++) {
            x.file();
            for (int b = 0; b < 60; b++, calls++) {
                x.octet(file, b + file);
            }
        }
        for (; calls < 511; calls++) {
            CHECK.due("identify(7)", x.identify(7), FormatRows.NONE);
        }
        CHECK.due("call 512: identify(0)", x.identify(0), 29);
    }

    private static void formatsTo29() {
        CHECK.about("FORMATS are 0 .. 29");
        FormatRows x = new FormatRows();
        for (int f = 0; f < 30; f += 29) {
            CHECK.due("container of " + f, x.container(f, f, f), f == 0 ? 0 : 1);
            CHECK.due("obsolete(" + f + ")", x.obsolete(f, true), 1);
            CHECK.due("migration(" + f + ", 15)", x.migration(f, 15), 1);
            CHECK.due("becomes(" + f + ")", x.becomes(f), 15);
            CHECK.due("migration(14, " + f + ")", x.migration(14, f), 1);
            CHECK.due("count(" + f + ", 0)", x.count(f, 0), 0);
        }
        for (int f : NO_FORMATS) {
            CHECK.due("container of " + f, x.container(f, f, f), FormatRows.RANGE);
            CHECK.due("obsolete(" + f + ")", x.obsolete(f, true), FormatRows.RANGE);
            CHECK.due("migration(" + f + ", 15)", x.migration(f, 15), FormatRows.RANGE);
            CHECK.due("becomes(" + f + ")", x.becomes(f), FormatRows.RANGE);
        }
        CHECK.due("migration(14, 30)", x.migration(14, 30), FormatRows.RANGE);
        CHECK.due("migration(14, -2)", x.migration(14, -2), FormatRows.RANGE);
        CHECK.due("count(30, 0)", x.count(30, 0), FormatRows.RANGE);
        CHECK.due("count(-2, 0)", x.count(-2, 0), FormatRows.RANGE);
    }

    private static void meets(FormatRows x, String row, int file, int want) {
        CHECK.due("'" + row + "' meets", x.meets(Check.row(x, row), file), want);
    }

    private static void lastFourBytes() {
        CHECK.about("-4 is where the last four bytes begin");
        FormatRows x = new FormatRows();
        int file = Check.file(x, 1, 2, 3, 4, 5, 6);
        meets(x, "1 1 -4 03040506", file, 1);
        meets(x, "1 1 -4 03", file, 1);
        meets(x, "1 1 -4 02", file, 0);
        meets(x, "1 1 -4 04", file, 0);
        meets(x, "1 1 -1 06", file, 1);
        meets(x, "1 1 -6 01", file, 1);
        meets(x, "1 1 @4 05", file, 1);
        x.octet(file, 7);
        CHECK.due("a byte more: '-4 03'", x.meets(1, file), 0);
        CHECK.due("a byte more: '-4 04'", x.meets(3, file), 1);
        CHECK.due("a byte more: '@4 05'", x.meets(6, file), 1);
    }

    private static void allLieInTheFile() {
        CHECK.about("the places all lie in the file");
        FormatRows x = new FormatRows();
        int file = Check.file(x, 0, 0, 0);
        meets(x, "1 1 @0 ??????", file, 1);
        meets(x, "1 1 @0 ????????", file, 0);
        meets(x, "1 1 @2 ??", file, 1);
        meets(x, "1 1 @2 ????", file, 0);
        meets(x, "1 1 @3 ??", file, 0);
        meets(x, "1 1 @999 ??", file, 0);
        meets(x, "1 1 -3 ??????", file, 1);
        meets(x, "1 1 -3 ????????", file, 0);
        meets(x, "1 1 -4 ??", file, 0);
        meets(x, "1 1 -4 ????????", file, 0);
        meets(x, "1 1 -999 ??", file, 0);
        meets(x, "1 1 -1 ????", file, 0);
        meets(x, "1 1 -0 ??", file, 0);
        meets(x, "1 1 @0 ??", x.file(), 0);
    }

    private static void haveTheseBytes() {
        CHECK.about("and have these bytes");
        FormatRows x = new FormatRows();
        int file = Check.file(x, 0x00, 0x80, 0xff);
        meets(x, "1 1 @0 0080ff", file, 1);
        meets(x, "1 1 @0 0180ff", file, 0);
        meets(x, "1 1 @0 0081ff", file, 0);
        meets(x, "1 1 @0 0080fe", file, 0);
        meets(x, "1 1 @0 ??80??", file, 1);
        meets(x, "1 1 @0 00????", file, 1);
        meets(x, "1 1 @0 ??00??", file, 0);
    }

    private static void filesTo39() {
        CHECK.about("FILES are 0 .. 39, as they come");
        FormatRows x = new FormatRows();
        for (int i = 0; i < 40; i++) {
            CHECK.due("before file " + i, x.identify(i), FormatRows.RANGE);
            CHECK.due("file " + i, x.file(), i);
            CHECK.due("after file " + i, x.identify(i), 0);
        }
        CHECK.due("file 40", x.file(), FormatRows.FULL);
        CHECK.due("identify(40)", x.identify(40), FormatRows.RANGE);
    }

    private static void sixtyBytes() {
        CHECK.about("bytes, at most 60");
        FormatRows x = new FormatRows();
        Check.files(x, 2);
        for (int i = 1; i <= 60; i++) {
            CHECK.due("octet " + i, x.octet(0, 5), i);
        }
        CHECK.due("octet 61", x.octet(0, 6), FormatRows.FULL);
        meets(x, "1 1 @59 05", 0, 1);
        meets(x, "1 1 @60 ??", 0, 0);
        meets(x, "1 1 -60 05", 0, 1);
        meets(x, "1 1 -61 ??", 0, 0);
        CHECK.due("the other file has none", x.octet(1, 7), 1);
    }

    private static void memberOfOne() {
        CHECK.about("a file is a member of at most one");
        FormatRows x = new FormatRows();
        Check.files(x, 3);
        CHECK.due("member(2, 0)", x.member(2, 0), 1);
        CHECK.due("member(2, 1)", x.member(2, 1), FormatRows.STATE);
        CHECK.due("member(2, 0)", x.member(2, 0), FormatRows.STATE);
    }

    private static void noneOfItself() {
        CHECK.about("and none of itself, at any depth");
        FormatRows x = new FormatRows();
        Check.files(x, 40);
        CHECK.due("member(0, 0)", x.member(0, 0), FormatRows.STATE);
        for (int i = 1; i < 40; i++) {
            CHECK.due("member(" + i + ", " + (i - 1) + ")", x.member(i, i - 1), 1);
            CHECK.due("member(0, " + i + ")", x.member(0, i), FormatRows.STATE);
        }
    }

    private static void firstRows() {
        CHECK.about("of the first so many rows");
        FormatRows x = new FormatRows();
        Check.file(x, 1);
        Check.row(x, "3 5 @0 01");
        Check.row(x, "4 6 @0 01");
        CHECK.due("count(-1, 0)", x.count(FormatRows.NONE, 0), 1);
        CHECK.due("count(3, 1)", x.count(3, 1), 1);
        CHECK.due("count(4, 1)", x.count(4, 1), 0);
        CHECK.due("count(4, 2)", x.count(4, 2), 1);
    }

    private static void greatestRank() {
        CHECK.about("those of the greatest RANK among them");
        for (int rank = 1; rank <= 9; rank++) {
            FormatRows x = new FormatRows();
            int file = Check.file(x, 1);
            int other = Check.file(x, 2);
            Check.row(x, "5 " + (rank - 1) + " @0 ??");
            Check.row(x, "6 " + rank + " @0 01");
            Check.row(x, "7 " + (rank - 1) + " @0 01");
            CHECK.due("rank " + rank, x.identify(file), 6);
            CHECK.due("a greater one that does not meet it", x.identify(other), 5);
        }
    }

    private static void eachOnceByNumbers() {
        CHECK.about("their formats, each once, by numbers");
        FormatRows x = new FormatRows();
        int file = Check.file(x, 1);
        for (String format : new String[] {"29", "0", "29", "10", "2", "0"}) {
            Check.row(x, format + " 4 @0 01");
        }
        x.identify(file);
        int[] want = {0, 2, 10, 29, Check.THROWN};
        for (int i = 0; i < want.length; i++) {
            CHECK.due("found(" + i + ")", Check.found(x, i), want[i]);
        }
    }

    private static void oneFormat() {
        CHECK.about("If there is one it is THE FORMAT of the file");
        for (int format : new int[] {0, 1, 28, 29}) {
            FormatRows x = new FormatRows();
            int file = Check.file(x, 1);
            Check.row(x, format + " 0 @0 01");
            CHECK.due("by one row", x.identify(file), format);
            Check.row(x, format + " 0 @0 ??");
            CHECK.due("by two rows of one format", x.identify(file), format);
        }
    }

    private static void noFormat() {
        CHECK.about("if there is none it is UNKNOWN");
        FormatRows x = new FormatRows();
        int file = Check.file(x, 1);
        CHECK.due("no rows", x.identify(file), FormatRows.NONE);
        Check.row(x, "0 9 @1 ??");
        CHECK.due("a row that does not meet it", x.identify(file), FormatRows.NONE);
        CHECK.due("count(-1, 1)", x.count(FormatRows.NONE, 1), 1);
        CHECK.due("count(0, 1)", x.count(0, 1), 0);
    }

    private static void withoutBytes() {
        CHECK.about("but a file without bytes has THE FORMAT 0");
        FormatRows x = new FormatRows();
        int file = x.file();
        CHECK.due("no rows", x.identify(file), 0);
        Check.row(x, "7 9 @0 ??");
        Check.row(x, "8 9 -0 ??");
        CHECK.due("identify", x.identify(file), 0);
        CHECK.due("deep", x.deep(file), 0);
        CHECK.due("count(0, 0)", x.count(0, 0), 1);
        x.octet(file, 0);
        CHECK.due("with a byte", x.identify(file), 7);
        CHECK.due("with a byte, count(0, 0)", x.count(0, 0), 0);
    }

    private static void moreFormats() {
        CHECK.about("if there are more it is UNCLEAR");
        FormatRows x = new FormatRows();
        int file = Check.file(x, 1);
        for (int f = 29; f >= 0; f--) {
            Check.row(x, f + " 2 @0 01");
            CHECK.due(30 - f + " formats", x.identify(file), f == 29 ? 29 : FormatRows.UNCLEAR);
        }
    }

    /** A file with byte n has the format n, for n from 1 to 9. */
    private static FormatRows nineFormats() {
        FormatRows x = new FormatRows();
        for (int n = 1; n <= 9; n++) {
            Check.row(x, n + " 1 @0 0" + n);
        }
        return x;
    }

    private static void hasMembers() {
        CHECK.about("THE DEEP FORMAT of a file that has members");
        FormatRows x = nineFormats();
        int file = Check.file(x, 1);
        int other = Check.file(x, 1);
        x.container(1, 1, 5);
        CHECK.due("it has none", x.deep(file), 1);
        x.member(other, file);
        CHECK.due("it has one", x.deep(file), 5);
        CHECK.due("its member has none", x.deep(other), 1);
    }

    private static void firstOfAContainerRow() {
        CHECK.about("it holds if THE FORMAT of the file is the first");
        FormatRows x = nineFormats();
        int file = Check.file(x, 1);
        int outer = Check.file(x, 4);
        x.member(Check.file(x, 2), file);
        x.member(file, outer);
        x.container(2, 2, 6);
        x.container(3, 2, 7);
        CHECK.due("it is another one", x.deep(file), 1);
        x.container(1, 2, 4);
        CHECK.due("it is the first", x.deep(file), 4);
        x.container(4, 2, 8);
        CHECK.due("not its DEEP FORMAT", x.deep(file), 4);
        CHECK.due("nor a member's member", x.deep(outer), 4);
    }

    private static void wantedDeepFormat() {
        CHECK.about("and one of its members has THE DEEP FORMAT wanted");
        FormatRows x = nineFormats();
        int outer = Check.file(x, 1);
        int inner = Check.file(x, 2);
        x.member(Check.file(x, 4), outer);
        x.member(inner, outer);
        x.member(Check.file(x, 3), inner);
        x.container(1, 2, 6);
        CHECK.due("its FORMAT, where that is its DEEP one", x.deep(outer), 6);
        x.container(2, 3, 5);
        CHECK.due("its FORMAT, where that is not its DEEP one", x.deep(outer), 1);
        x.container(1, 5, 7);
        CHECK.due("its DEEP FORMAT", x.deep(outer), 7);
    }

    private static void latestThatHolds() {
        CHECK.about("of several that hold the latest counts");
        FormatRows x = nineFormats();
        int file = Check.file(x, 1);
        x.member(Check.file(x, 2), file);
        x.member(Check.file(x, 3), file);
        for (int i = 0; i < 20; i++) {
            x.container(1, i % 2 == 0 ? 3 : 2, i);
            CHECK.due("container rows: " + (i + 1), x.deep(file), i);
        }
        x = nineFormats();
        file = Check.file(x, 1);
        x.member(Check.file(x, 2), file);
        x.container(1, 2, 20);
        x.container(1, 3, 21);
        CHECK.due("a later one that does not hold", x.deep(file), 20);
    }

    private static void noneHolds() {
        CHECK.about("if none does it is THE FORMAT");
        FormatRows x = nineFormats();
        int file = Check.file(x, 1);
        x.member(Check.file(x, 2), file);
        CHECK.due("there are none", x.deep(file), 1);
        x.container(1, 3, 8);
        x.container(2, 2, 8);
        CHECK.due("none holds", x.deep(file), 1);
    }

    /** Five files, 0 to 4, each the only member of the one before; the last one's byte is 2. */
    private static FormatRows fiveDeep() {
        FormatRows x = nineFormats();
        for (int i = 0; i < 5; i++) {
            Check.file(x, i < 4 ? 1 : 2);
        }
        for (int i = 1; i < 5; i++) {
            x.member(i, i - 1);
        }
        return x;
    }

    private static void lookedInto() {
        CHECK.about("Members are looked into at DEPTHS 0 to 2");
        FormatRows x = fiveDeep();
        x.container(1, 2, 3);
        CHECK.due("depth 0", x.deep(3), 3);
        x.container(1, 3, 4);
        CHECK.due("depth 1", x.deep(2), 4);
        x.container(1, 4, 5);
        CHECK.due("depth 2", x.deep(1), 5);
        x.container(1, 5, 6);
        CHECK.due("not depth 3", x.deep(0), 1);
    }

    private static void depthThree() {
        CHECK.about("of one at DEPTH 3 THE DEEP FORMAT is THE FORMAT");
        FormatRows x = fiveDeep();
        x.container(1, 2, 9);
        x.container(1, 1, 3);
        x.container(1, 3, 4);
        x.container(1, 4, 5);
        CHECK.due("the file at DEPTH 3 is 1, not 9", x.deep(0), 5);
        CHECK.due("the same file at DEPTH 2 is 9", x.deep(1), 3);
    }

    private static void asLongAsOutOfDate() {
        CHECK.about("as long as what one comes to is OUT OF DATE and has one");
        FormatRows x = new FormatRows();
        for (int f = 0; f < 29; f++) {
            x.migration(f, f + 1);
        }
        for (int f = 0; f < 29; f++) {
            x.obsolete(f, true);
            CHECK.due("0 to " + f + " are OUT OF DATE", x.becomes(0), f + 1);
        }
        x.obsolete(29, true);
        CHECK.due("the last one has no migration", x.becomes(0), 29);
        x.migration(12, -1);
        CHECK.due("12 has none any more", x.becomes(0), 12);
        x.obsolete(5, false);
        CHECK.due("5 is not OUT OF DATE any more", x.becomes(0), 5);
    }

    private static void rings() {
        CHECK.about("RINGS are refused");
        FormatRows x = new FormatRows();
        CHECK.due("of one", x.migration(0, 0), FormatRows.STATE);
        for (int f = 0; f < 29; f++) {
            CHECK.due("migration(" + f + ", " + (f + 1) + ")", x.migration(f, f + 1), 1);
            CHECK.due("of " + (f + 2), x.migration(f + 1, 0), FormatRows.STATE);
        }
    }
}
