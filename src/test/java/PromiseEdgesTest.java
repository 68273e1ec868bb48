/** Promises 1 to 18, by their numbers: a test for each sentence that names an edge or a refused call. */
public final class PromiseEdgesTest {
    private static final Check CHECK = new Check();
    private static final int NONE = FormatRows.NONE;
    private static final int RANGE = FormatRows.RANGE;
    private static final int STATE = FormatRows.STATE;
    private static final int FULL = FormatRows.FULL;
    private static final int UNCLEAR = FormatRows.UNCLEAR;
    private static final int THROWN = Check.THROWN;
    private static final int LEAST = Integer.MIN_VALUE;
    private static final int MOST = Integer.MAX_VALUE;
    private static final int[] NO_FORMATS = {-1, -5, 30, LEAST, MOST};

    public static void main(String[] args) {
        newObject();
        signLowestBits();
        signsBeyondSixty();
        rowNumbers();
        rowForgets();
        rowWrong();
        rowFull();
        octetLowestBits();
        octetCounts();
        octetNone();
        octetFull();
        fileWithoutBytes();
        fileFull();
        memberCounts();
        memberNone();
        memberAlready();
        memberIsThatFile();
        memberHasIt();
        memberFull();
        identifyByAllRows();
        identifyUnknownAndUnclear();
        identifyNoSuchFile();
        foundFromZero();
        foundLatestByIdentify();
        foundWithoutBytes();
        foundThrows();
        meetsOneOrZero();
        meetsNone();
        containerNumbers();
        containerRange();
        containerFull();
        deepAsIdentify();
        deepNoContainers();
        obsoleteOrNot();
        obsoleteRange();
        migrationInPlace();
        migrationToNone();
        migrationRange();
        migrationComesBack();
        migrationToItself();
        becomesNotOutOfDate();
        becomesWithoutMigration();
        becomesRange();
        keepAllFiles();
        changedByNumbers();
        changedByBytes();
        changedSince();
        changedNone();
        countUnknownAndUnclear();
        countNoSuchFormat();
        countNotSoManyRows();
        patternPlaces();
        patternThrows();
        patternNoSuchRow();
        CHECK.end();
    }

    private static void newObject() {
        CHECK.about("1: No rows, files, container rows; no format is OUT OF DATE");
        FormatRows x = new FormatRows();
        CHECK.due("rows: keep()", x.keep(), 0);
        CHECK.due("rows: pattern(0, 0)", Check.pattern(x, 0, 0), NONE);
        CHECK.due("files: identify(0)", x.identify(0), RANGE);
        for (int f = 0; f < 29; f++) {
            x.migration(f, 29);
            CHECK.due("OUT OF DATE: becomes(" + f + ")", x.becomes(f), NONE);
        }
        CHECK.due("the first file", x.file(), 0);
        CHECK.due("the first row", Check.row(x, "1 1 @0 00"), 0);
        CHECK.due("the first container row", x.container(1, 1, 1), 0);
    }

    private static void signLowestBits() {
        CHECK.about("2: A sign more of a row's text (the lowest eight bits)");
        for (int above : new int[] {256, -256, 1 << 30, LEAST, MOST - 255}) {
            FormatRows x = new FormatRows();
            for (char c : "5 1 @0 a1".toCharArray()) {
                x.sign(c + above);
            }
            CHECK.due("row with " + above + " more in each sign", x.row(), 0);
            CHECK.due("its pattern", Check.pattern(x, 0, 0), 0xa1);
        }
        FormatRows x = new FormatRows();
        x.sign('5' + 128);
        CHECK.due("the eighth bit counts", x.row(), -10);
    }

    /** The longest row has 34 signs, so that no answer shows the loss itself: it must do no harm. */
    private static void signsBeyondSixty() {
        CHECK.about("2: beyond 60 it is lost");
        for (int many : new int[] {59, 60, 61, 62, 120, 400}) {
            FormatRows x = new FormatRows();
            CHECK.due("row of " + many + " blanks", Check.row(x, " ".repeat(many)), -10);
            CHECK.due("nothing of them is left", Check.row(x, "1 1 @0 00"), 0);
            x = new FormatRows();
            String text = "1 1 @0 " + "00".repeat(12);
            CHECK.due("row and " + many + " blanks", Check.row(x, text + " ".repeat(many)), -41);
            CHECK.due("nothing of them is left", x.row(), -10);
        }
        FormatRows x = new FormatRows();
        Check.tell(x, "x".repeat(60));
        CHECK.due("a row behind 60 signs", Check.row(x, "1 1 @0 00"), -10);
        CHECK.due("it was lost", x.keep(), 0);
    }

    private static void rowNumbers() {
        CHECK.about("3: its number, 0 .. 59");
        FormatRows x = new FormatRows();
        for (int i = 0; i < 51; i++) {
            CHECK.due("row " + i, Check.row(x, "1 1 @0 00"), i);
        }
    }

    private static void rowForgets() {
        CHECK.about("3: nothing is told any more");
        FormatRows x = new FormatRows();
        Check.row(x, "1 1 @0 00");
        CHECK.due("after a row", x.row(), -10);
        CHECK.due("the next row", Check.row(x, "1 1 @0 00"), 1);
        Check.row(x, "1 1 @0 x");
        CHECK.due("after a wrong one", x.row(), -10);
        Check.row(x, "1 1 @0 0");
        CHECK.due("what was wanted comes too late", Check.row(x, "0"), -11);
        CHECK.due("the next row", Check.row(x, "1 1 @0 00"), 2);
    }

    private static void rowWrong() {
        CHECK.about("3: -10 less the place where it is WRONG");
        FormatRows x = new FormatRows();
        CHECK.due("nothing was told", x.row(), -10);
        CHECK.due("place 0", Check.row(x, "x"), -10);
        CHECK.due("place 1", Check.row(x, "1x"), -11);
        CHECK.due("place 34", Check.row(x, "29 9 @999 " + "ff".repeat(12) + "0"), -44);
        CHECK.due("no row came of them", x.keep(), 0);
        CHECK.due("the first row's number", Check.row(x, "1 1 @0 00"), 0);
    }

    /** 60 rows take 600 calls, more than are promised: the limit is tested all the same. */
    private static void rowFull() {
        CHECK.about("3: FULL (if it is not)");
        FormatRows x = new FormatRows();
        for (int i = 0; i < 60; i++) {
            CHECK.due("row " + i, Check.row(x, "1 1 @0 00"), i);
        }
        CHECK.due("row 60", Check.row(x, "2 2 @0 00"), FULL);
        CHECK.due("a wrong one", Check.row(x, "2 2 @0 0"), -18);
        CHECK.due("none is told", x.row(), -10);
        CHECK.due("rows", x.keep(), 60);
    }

    private static void octetLowestBits() {
        CHECK.about("4: A byte more of a file (the lowest eight bits)");
        FormatRows x = new FormatRows();
        int file = x.file();
        int[] given = {256, 255, 511, -1, -256, -128, LEAST, MOST};
        String[] want = {"00", "ff", "ff", "ff", "00", "80", "00", "ff"};
        for (int i = 0; i < given.length; i++) {
            x.octet(file, given[i]);
            int row = Check.row(x, "1 1 -1 " + want[i]);
            CHECK.due("octet " + given[i] + " is " + want[i], x.meets(row, file), 1);
        }
    }

    private static void octetCounts() {
        CHECK.about("4: how many it has");
        FormatRows x = new FormatRows();
        Check.files(x, 2);
        CHECK.due("the first", x.octet(1, 9), 1);
        CHECK.due("the second", x.octet(1, 9), 2);
        CHECK.due("the other file's first", x.octet(0, 9), 1);
        CHECK.due("the third", x.octet(1, 9), 3);
    }

    private static void octetNone() {
        CHECK.about("4: NONE");
        FormatRows x = new FormatRows();
        CHECK.due("no files", x.octet(0, 1), NONE);
        x.file();
        for (int f : new int[] {-1, 1, 39, 40, LEAST, MOST}) {
            CHECK.due("octet(" + f + ", 1)", x.octet(f, 1), NONE);
        }
        x.file();
        CHECK.due("the new file has none", x.octet(1, 1), 1);
        CHECK.due("nor has the first", x.octet(0, 1), 1);
    }

    private static void octetFull() {
        CHECK.about("4: FULL");
        FormatRows x = new FormatRows();
        Check.files(x, 40);
        for (int i = 1; i <= 60; i++) {
            x.octet(38, 1);
            CHECK.due("octet " + i, x.octet(39, i), i);
        }
        CHECK.due("octet 61", x.octet(39, 0xee), FULL);
        CHECK.due("octet 61 again", x.octet(39, 0xee), FULL);
        CHECK.due("octet 61 of file 38", x.octet(38, 0xee), FULL);
        CHECK.due("NONE comes before FULL", x.octet(40, 0xee), NONE);
        int last = Check.row(x, "1 1 -1 3c");
        CHECK.due("its last byte is as before", x.meets(last, 39), 1);
        int first = Check.row(x, "1 1 @0 01");
        CHECK.due("its first byte is as before", x.meets(first, 39), 1);
    }

    private static void fileWithoutBytes() {
        CHECK.about("5: A file more, without bytes: its number");
        FormatRows x = new FormatRows();
        for (int i = 0; i < 40; i++) {
            CHECK.due("file " + i, x.file(), i);
            CHECK.due("its FORMAT", x.identify(i), 0);
            CHECK.due("its first byte", x.octet(i, i), 1);
        }
    }

    private static void fileFull() {
        CHECK.about("5: FULL");
        FormatRows x = new FormatRows();
        Check.files(x, 39);
        CHECK.due("file 39", x.file(), 39);
        CHECK.due("file 40", x.file(), FULL);
        CHECK.due("file 40 again", x.file(), FULL);
        CHECK.due("files", x.count(0, 0), 40);
    }

    private static void memberCounts() {
        CHECK.about("6: how many that has");
        FormatRows x = new FormatRows();
        Check.files(x, 12);
        for (int i = 1; i <= 8; i++) {
            CHECK.due("member(" + i + ", 0)", x.member(i, 0), i);
        }
        CHECK.due("of a member", x.member(9, 8), 1);
        CHECK.due("of that one", x.member(10, 8), 2);
    }

    private static void memberNone() {
        CHECK.about("6: NONE");
        FormatRows x = new FormatRows();
        CHECK.due("no files", x.member(0, 1), NONE);
        Check.files(x, 2);
        for (int f : new int[] {-1, 2, 39, 40, LEAST, MOST}) {
            CHECK.due("member(" + f + ", 0)", x.member(f, 0), NONE);
            CHECK.due("member(0, " + f + ")", x.member(0, f), NONE);
            CHECK.due("member(" + f + ", " + f + ")", x.member(f, f), NONE);
        }
        CHECK.due("none came of them", x.member(1, 0), 1);
        CHECK.due("NONE comes before STATE", x.member(1, 2), NONE);
    }

    private static void memberAlready() {
        CHECK.about("6: STATE if it is a member already");
        FormatRows x = new FormatRows();
        Check.files(x, 4);
        x.member(1, 0);
        CHECK.due("of the same", x.member(1, 0), STATE);
        CHECK.due("of another", x.member(1, 2), STATE);
        CHECK.due("the same has one", x.member(3, 0), 2);
        CHECK.due("the other has none", x.member(0, 2), 1);
    }

    private static void memberIsThatFile() {
        CHECK.about("6: STATE if it is that file");
        FormatRows x = new FormatRows();
        Check.files(x, 40);
        for (int f = 0; f < 40; f++) {
            CHECK.due("member(" + f + ", " + f + ")", x.member(f, f), STATE);
        }
        CHECK.due("it has none", x.member(1, 0), 1);
        CHECK.due("it is none", x.member(0, 2), 1);
    }

    private static void memberHasIt() {
        CHECK.about("6: STATE if it has it among its members at any depth");
        FormatRows x = new FormatRows();
        Check.files(x, 40);
        for (int i = 0; i < 38; i++) {
            x.member(i, i + 1);
            CHECK.due("member(" + (i + 1) + ", 0)", x.member(i + 1, 0), STATE);
        }
        CHECK.due("another may have it", x.member(38, 39), 1);
        CHECK.due("then that one has it", x.member(39, 0), STATE);
        x = new FormatRows();
        Check.files(x, 4);
        x.member(1, 0);
        x.member(2, 0);
        CHECK.due("a member's fellow may have one", x.member(3, 2), 1);
        CHECK.due("the second member's member", x.member(0, 3), STATE);
    }

    private static void memberFull() {
        CHECK.about("6: FULL behind 8");
        FormatRows x = new FormatRows();
        Check.files(x, 12);
        for (int i = 1; i <= 8; i++) {
            CHECK.due("member(" + i + ", 0)", x.member(i, 0), i);
        }
        CHECK.due("the ninth", x.member(9, 0), FULL);
        CHECK.due("the ninth again", x.member(9, 0), FULL);
        CHECK.due("STATE comes before FULL", x.member(8, 0), STATE);
        CHECK.due("NONE comes before FULL", x.member(12, 0), NONE);
        CHECK.due("the ninth is no member", x.member(9, 10), 1);
        CHECK.due("what is full may be a member", x.member(0, 11), 1);
    }

    private static void identifyByAllRows() {
        CHECK.about("7: THE FORMAT of a file by all rows");
        FormatRows x = new FormatRows();
        int file = Check.file(x, 1);
        for (int i = 0; i < 10; i++) {
            Check.row(x, 20 + i + " " + i + " @0 01");
            CHECK.due("by " + (i + 1) + " rows", x.identify(file), 20 + i);
        }
        x.container(29, 0, 1);
        x.member(x.file(), file);
        x.keep();
        CHECK.due("not THE DEEP FORMAT", x.identify(file), 29);
    }

    private static void identifyUnknownAndUnclear() {
        CHECK.about("7: NONE for UNKNOWN; UNCLEAR");
        FormatRows x = new FormatRows();
        int file = Check.file(x, 1);
        CHECK.due("by no row", x.identify(file), NONE);
        Check.row(x, "0 0 @0 01");
        CHECK.due("by one row", x.identify(file), 0);
        Check.row(x, "29 0 @0 01");
        CHECK.due("by two rows", x.identify(file), UNCLEAR);
    }

    private static void identifyNoSuchFile() {
        CHECK.about("7: RANGE for no such file");
        FormatRows x = new FormatRows();
        CHECK.due("no files", x.identify(0), RANGE);
        Check.file(x, 1);
        Check.row(x, "9 1 @0 01");
        x.identify(0);
        for (int f : new int[] {-1, 1, 39, 40, LEAST, MOST}) {
            CHECK.due("identify(" + f + ")", x.identify(f), RANGE);
            CHECK.due("no file was identified", Check.found(x, 0), 9);
        }
    }

    private static void foundFromZero() {
        CHECK.about("8: The i-th of the formats that were found, from 0 on");
        FormatRows x = new FormatRows();
        int file = Check.file(x, 1);
        for (int f = 29; f >= 0; f--) {
            Check.row(x, f + " 1 @0 01");
        }
        x.identify(file);
        for (int i = 0; i < 30; i++) {
            CHECK.due("found(" + i + ")", Check.found(x, i), i);
        }
    }

    private static void foundLatestByIdentify() {
        CHECK.about("8: when a file was identified latest (by identify)");
        FormatRows x = new FormatRows();
        int file = Check.file(x, 1);
        int other = Check.file(x, 2);
        Check.row(x, "5 1 @0 01");
        Check.row(x, "6 1 @0 02");
        x.deep(file);
        x.count(5, 2);
        x.keep();
        x.changed(0);
        CHECK.due("by no identify", Check.found(x, 0), THROWN);
        x.identify(file);
        x.deep(other);
        x.count(6, 2);
        x.keep();
        x.changed(0);
        CHECK.due("not by deep, count, keep, changed", Check.found(x, 0), 5);
        Check.row(x, "7 2 @0 01");
        x.octet(file, 1);
        CHECK.due("as it was then", Check.found(x, 0), 5);
        x.identify(other);
        CHECK.due("of the latest", Check.found(x, 0), 6);
    }

    private static void foundWithoutBytes() {
        CHECK.about("8: of a file without bytes format 0 alone");
        FormatRows x = new FormatRows();
        int empty = x.file();
        int file = Check.file(x, 1);
        Check.row(x, "3 1 @0 ??");
        Check.row(x, "4 1 -0 ??");
        x.identify(file);
        x.identify(empty);
        CHECK.due("found(0)", Check.found(x, 0), 0);
        CHECK.due("found(1)", Check.found(x, 1), THROWN);
    }

    private static void foundThrows() {
        CHECK.about("8: ArrayIndexOutOfBoundsException if there is none such");
        FormatRows x = new FormatRows();
        CHECK.due("nothing was identified", Check.found(x, 0), THROWN);
        int file = Check.file(x, 1);
        x.identify(file);
        CHECK.due("of UNKNOWN", Check.found(x, 0), THROWN);
        Check.row(x, "8 1 @0 01");
        Check.row(x, "9 1 @0 01");
        x.identify(file);
        CHECK.due("found(1)", Check.found(x, 1), 9);
        for (int i : new int[] {-1, 2, 8, 9, 29, 30, 31, 32, LEAST, MOST}) {
            CHECK.due("found(" + i + ")", Check.found(x, i), THROWN);
        }
        x.octet(x.file(), 7);
        x.identify(1);
        CHECK.due("of UNKNOWN after others", Check.found(x, 0), THROWN);
    }

    private static void meetsOneOrZero() {
        CHECK.about("9: Whether a row MEETS a file: 1 or 0");
        FormatRows x = new FormatRows();
        Check.file(x, 1);
        Check.file(x, 2);
        Check.row(x, "5 0 @0 01");
        Check.row(x, "6 9 @0 ??");
        CHECK.due("meets(0, 0)", x.meets(0, 0), 1);
        CHECK.due("meets(0, 1)", x.meets(0, 1), 0);
        CHECK.due("meets(1, 0)", x.meets(1, 0), 1);
        CHECK.due("meets(1, 1)", x.meets(1, 1), 1);
    }

    private static void meetsNone() {
        CHECK.about("9: NONE if one is not there");
        FormatRows x = new FormatRows();
        CHECK.due("neither is", x.meets(0, 0), NONE);
        Check.file(x, 1);
        CHECK.due("no row is", x.meets(0, 0), NONE);
        Check.row(x, "5 0 @0 01");
        CHECK.due("both are", x.meets(0, 0), 1);
        for (int n : new int[] {-1, 1, 39, 40, 59, 60, LEAST, MOST}) {
            CHECK.due("meets(" + n + ", 0)", x.meets(n, 0), NONE);
            CHECK.due("meets(0, " + n + ")", x.meets(0, n), NONE);
            CHECK.due("meets(" + n + ", " + n + ")", x.meets(n, n), NONE);
        }
    }

    private static void containerNumbers() {
        CHECK.about("10: its number, 0 .. 19");
        FormatRows x = new FormatRows();
        for (int i = 0; i < 20; i++) {
            CHECK.due("container row " + i, x.container(29 - i, i, i), i);
        }
    }

    private static void containerRange() {
        CHECK.about("10: RANGE");
        FormatRows x = new FormatRows();
        for (int f : NO_FORMATS) {
            CHECK.due("container(" + f + ", 0, 0)", x.container(f, 0, 0), RANGE);
            CHECK.due("container(0, " + f + ", 0)", x.container(0, f, 0), RANGE);
            CHECK.due("container(0, 0, " + f + ")", x.container(0, 0, f), RANGE);
        }
        CHECK.due("none came of them", x.container(29, 29, 29), 0);
        CHECK.due("the least", x.container(0, 0, 0), 1);
    }

    private static void containerFull() {
        CHECK.about("10: FULL");
        FormatRows x = new FormatRows();
        int file = x.file();
        x.member(x.file(), file);
        for (int i = 0; i < 20; i++) {
            CHECK.due("container row " + i, x.container(0, 0, i), i);
        }
        CHECK.due("container row 20", x.container(0, 0, 25), FULL);
        CHECK.due("container row 20 again", x.container(0, 0, 25), FULL);
        CHECK.due("it does not count", x.deep(file), 19);
        CHECK.due("RANGE comes before FULL", x.container(30, 0, 0), RANGE);
    }

    private static void deepAsIdentify() {
        CHECK.about("11: NONE, UNCLEAR, RANGE as identify");
        FormatRows x = new FormatRows();
        CHECK.due("no files", x.deep(0), RANGE);
        Check.file(x, 1);
        for (int f : new int[] {-1, 1, 39, 40, LEAST, MOST}) {
            CHECK.due("deep(" + f + ")", x.deep(f), RANGE);
        }
        CHECK.due("UNKNOWN", x.deep(0), NONE);
        Check.row(x, "5 1 @0 01");
        CHECK.due("THE FORMAT", x.deep(0), 5);
        Check.row(x, "6 1 @0 01");
        CHECK.due("UNCLEAR", x.deep(0), UNCLEAR);
    }

    private static void deepNoContainers() {
        CHECK.about("11: UNCLEAR and UNKNOWN files are no containers");
        FormatRows x = new FormatRows();
        int unknown = Check.file(x, 1);
        int unclear = Check.file(x, 2);
        x.member(x.file(), unknown);
        x.member(x.file(), unclear);
        Check.row(x, "0 1 @0 02");
        Check.row(x, "1 1 @0 02");
        x.container(0, 0, 7);
        x.container(1, 0, 8);
        x.container(29, 0, 9);
        CHECK.due("UNKNOWN", x.deep(unknown), NONE);
        CHECK.due("UNCLEAR", x.deep(unclear), UNCLEAR);
    }

    private static void obsoleteOrNot() {
        CHECK.about("12: A format is OUT OF DATE, or not: 1");
        FormatRows x = new FormatRows();
        for (int f = 0; f < 29; f++) {
            x.migration(f, 29);
            CHECK.due("obsolete(" + f + ", true)", x.obsolete(f, true), 1);
            CHECK.due("obsolete(" + f + ", true) again", x.obsolete(f, true), 1);
            CHECK.due("becomes(" + f + ")", x.becomes(f), 29);
            CHECK.due("obsolete(" + f + ", false)", x.obsolete(f, false), 1);
            CHECK.due("obsolete(" + f + ", false) again", x.obsolete(f, false), 1);
            CHECK.due("becomes(" + f + ") no more", x.becomes(f), NONE);
        }
    }

    private static void obsoleteRange() {
        CHECK.about("12: RANGE");
        FormatRows x = new FormatRows();
        for (int f : NO_FORMATS) {
            CHECK.due("obsolete(" + f + ", true)", x.obsolete(f, true), RANGE);
            CHECK.due("obsolete(" + f + ", false)", x.obsolete(f, false), RANGE);
        }
        CHECK.due("obsolete(0, true)", x.obsolete(0, true), 1);
        CHECK.due("obsolete(29, true)", x.obsolete(29, true), 1);
    }

    private static void migrationInPlace() {
        CHECK.about("13: in place of the one before");
        FormatRows x = new FormatRows();
        x.obsolete(4, true);
        CHECK.due("migration(4, 5)", x.migration(4, 5), 1);
        CHECK.due("migration(4, 6)", x.migration(4, 6), 1);
        CHECK.due("becomes(4)", x.becomes(4), 6);
        CHECK.due("the one before is no ring any more", x.migration(5, 4), 1);
        CHECK.due("the same again", x.migration(4, 6), 1);
    }

    private static void migrationToNone() {
        CHECK.about("13: (to -1: none any more): 1");
        FormatRows x = new FormatRows();
        x.obsolete(4, true);
        CHECK.due("where there was none", x.migration(4, -1), 1);
        x.migration(4, 5);
        CHECK.due("where there was one", x.migration(4, -1), 1);
        CHECK.due("becomes(4)", x.becomes(4), NONE);
        CHECK.due("no ring any more", x.migration(5, 4), 1);
    }

    private static void migrationRange() {
        CHECK.about("13: RANGE");
        FormatRows x = new FormatRows();
        x.obsolete(4, true);
        x.migration(4, 5);
        for (int f : new int[] {-2, -5, 30, LEAST, MOST}) {
            CHECK.due("migration(4, " + f + ")", x.migration(4, f), RANGE);
            CHECK.due("the one before is left", x.becomes(4), 5);
            CHECK.due("migration(" + f + ", 4)", x.migration(f, 4), RANGE);
            CHECK.due("migration(" + f + ", -1)", x.migration(f, -1), RANGE);
            CHECK.due("RANGE comes before STATE", x.migration(f, f), RANGE);
        }
        CHECK.due("migration(-1, 4)", x.migration(-1, 4), RANGE);
        CHECK.due("migration(-1, -1)", x.migration(-1, -1), RANGE);
        CHECK.due("migration(29, 0)", x.migration(29, 0), 1);
        CHECK.due("migration(3, 29)", x.migration(3, 29), 1);
    }

    private static void migrationComesBack() {
        CHECK.about("13: STATE if by migrations one would come back from the other one to it");
        FormatRows x = new FormatRows();
        x.migration(4, 5);
        CHECK.due("a ring of two", x.migration(5, 4), STATE);
        x.migration(5, 6);
        CHECK.due("a ring of three", x.migration(6, 4), STATE);
        CHECK.due("none of them is OUT OF DATE", x.becomes(4), NONE);
        x.obsolete(6, true);
        CHECK.due("no migration came of it", x.becomes(6), NONE);
        CHECK.due("another way to the same end", x.migration(4, 6), 1);
        CHECK.due("a ring of two by that way", x.migration(6, 4), STATE);
        CHECK.due("from outside", x.migration(7, 4), 1);
        x.migration(6, 8);
        x.obsolete(8, true);
        CHECK.due("the one before is left", x.migration(6, 4), STATE);
        CHECK.due("becomes(6)", x.becomes(6), 8);
    }

    private static void migrationToItself() {
        CHECK.about("13: STATE if they are the same");
        FormatRows x = new FormatRows();
        for (int f = 0; f < 30; f++) {
            CHECK.due("migration(" + f + ", " + f + ")", x.migration(f, f), STATE);
            x.obsolete(f, true);
            CHECK.due("becomes(" + f + ")", x.becomes(f), NONE);
        }
    }

    private static void becomesNotOutOfDate() {
        CHECK.about("14: NONE if it is not OUT OF DATE");
        FormatRows x = new FormatRows();
        x.migration(4, 5);
        x.migration(5, 6);
        x.obsolete(5, true);
        CHECK.due("becomes(4)", x.becomes(4), NONE);
        x.obsolete(4, true);
        CHECK.due("OUT OF DATE: becomes(4)", x.becomes(4), 6);
        x.obsolete(4, false);
        CHECK.due("not any more: becomes(4)", x.becomes(4), NONE);
    }

    private static void becomesWithoutMigration() {
        CHECK.about("14: or has no migration");
        FormatRows x = new FormatRows();
        for (int f = 0; f < 30; f++) {
            x.obsolete(f, true);
            CHECK.due("becomes(" + f + ")", x.becomes(f), NONE);
        }
        x.migration(4, 5);
        CHECK.due("with a migration", x.becomes(4), 5);
        CHECK.due("what it comes to has none", x.becomes(5), NONE);
    }

    private static void becomesRange() {
        CHECK.about("14: RANGE");
        FormatRows x = new FormatRows();
        for (int f : NO_FORMATS) {
            CHECK.due("becomes(" + f + ")", x.becomes(f), RANGE);
        }
        CHECK.due("becomes(0)", x.becomes(0), NONE);
        CHECK.due("becomes(29)", x.becomes(29), NONE);
    }

    private static void keepAllFiles() {
        CHECK.about("15: All files' FORMATS are kept, by all rows now: how many rows there are");
        FormatRows x = new FormatRows();
        CHECK.due("no rows", x.keep(), 0);
        Check.files(x, 40);
        CHECK.due("before", x.changed(39), 39);
        CHECK.due("no rows, 40 files", x.keep(), 0);
        CHECK.due("kept", x.changed(0), NONE);
        x.octet(0, 1);
        x.octet(39, 1);
        Check.row(x, "7 1 @0 01");
        CHECK.due("changed(0)", x.changed(0), 0);
        CHECK.due("changed(1)", x.changed(1), 39);
        CHECK.due("one row", x.keep(), 1);
        CHECK.due("kept again", x.changed(0), NONE);
        Check.row(x, "wrong");
        CHECK.due("one row still", x.keep(), 1);
        Check.row(x, "7 1 @0 01");
        CHECK.due("two rows", x.keep(), 2);
    }

    private static void changedByNumbers() {
        CHECK.about("16: The i-th file, from 0 on, by numbers");
        FormatRows x = new FormatRows();
        for (int file = 0; file < 6; file++) {
            Check.file(x, file % 2);
        }
        x.keep();
        Check.row(x, "3 1 @0 01");
        CHECK.due("changed(0)", x.changed(0), 1);
        CHECK.due("changed(1)", x.changed(1), 3);
        CHECK.due("changed(2)", x.changed(2), 5);
        CHECK.due("changed(3)", x.changed(3), NONE);
    }

    private static void changedByBytes() {
        CHECK.about("16: whose FORMAT by all rows and its bytes now is another one than was kept");
        FormatRows x = new FormatRows();
        Check.row(x, "3 1 -1 01");
        Check.row(x, "4 1 -1 02");
        Check.row(x, "3 1 -1 03");
        int file = Check.file(x, 1);
        x.keep();
        int[] bytes = {3, 2, 9, 1, 2};
        int[] want = {NONE, file, file, NONE, file};
        for (int i = 0; i < bytes.length; i++) {
            x.octet(file, bytes[i]);
            CHECK.due("with " + bytes[i] + " as its last byte", x.changed(0), want[i]);
        }
        Check.row(x, "3 2 -1 02");
        CHECK.due("by a row more", x.changed(0), NONE);
        Check.row(x, "4 2 -1 02");
        CHECK.due("UNCLEAR by a row more", x.changed(0), file);
        x.keep();
        CHECK.due("UNCLEAR as was kept", x.changed(0), NONE);
    }

    private static void changedSince() {
        CHECK.about("16: files that came since, too, as if UNKNOWN was kept for them");
        FormatRows x = new FormatRows();
        Check.row(x, "3 1 @0 01");
        int before = Check.file(x, 9);
        CHECK.due("nothing was kept: UNKNOWN", x.changed(0), NONE);
        x.keep();
        int since = x.file();
        CHECK.due("without bytes it is 0, not UNKNOWN", x.changed(0), since);
        x.octet(since, 2);
        CHECK.due("it is UNKNOWN", x.changed(0), NONE);
        int later = Check.file(x, 1);
        CHECK.due("it has a FORMAT", x.changed(0), later);
        x.keep();
        CHECK.due("kept", x.changed(0), NONE);
        Check.row(x, "4 1 @0 09");
        CHECK.due("one that was kept", x.changed(0), before);
        CHECK.due("no other", x.changed(1), NONE);
    }

    private static void changedNone() {
        CHECK.about("16: NONE");
        FormatRows x = new FormatRows();
        CHECK.due("no files", x.changed(0), NONE);
        Check.files(x, 40);
        CHECK.due("changed(39)", x.changed(39), 39);
        for (int i : new int[] {-1, 40, 41, LEAST, MOST}) {
            CHECK.due("changed(" + i + ")", x.changed(i), NONE);
        }
        x.keep();
        CHECK.due("all are as kept", x.changed(0), NONE);
    }

    private static void countUnknownAndUnclear() {
        CHECK.about("17: (NONE: are UNKNOWN, UNCLEAR: are that) by the first so many rows");
        FormatRows x = new FormatRows();
        Check.file(x, 1);
        Check.file(x, 1);
        Check.file(x, 2);
        x.file();
        Check.row(x, "29 1 @0 01");
        Check.row(x, "0 1 @0 01");
        int[][] dueByRows = {{3, 0, 0, 1}, {1, 0, 2, 1}, {1, 2, 0, 1}};
        for (int rows = 0; rows <= 2; rows++) {
            CHECK.due("count(-1, " + rows + ")", x.count(NONE, rows), dueByRows[rows][0]);
            CHECK.due("count(-5, " + rows + ")", x.count(UNCLEAR, rows), dueByRows[rows][1]);
            CHECK.due("count(29, " + rows + ")", x.count(29, rows), dueByRows[rows][2]);
            CHECK.due("count(0, " + rows + ")", x.count(0, rows), dueByRows[rows][3]);
        }
    }

    private static void countNoSuchFormat() {
        CHECK.about("17: RANGE for no such format");
        FormatRows x = new FormatRows();
        Check.file(x, 1);
        Check.row(x, "5 1 @0 01");
        for (int f : new int[] {-2, -3, -4, -6, 30, 31, LEAST, MOST}) {
            CHECK.due("count(" + f + ", 0)", x.count(f, 0), RANGE);
            CHECK.due("count(" + f + ", 1)", x.count(f, 1), RANGE);
        }
    }

    private static void countNotSoManyRows() {
        CHECK.about("17: or not so many rows");
        FormatRows x = new FormatRows();
        Check.file(x, 1);
        CHECK.due("count(-1, 0)", x.count(NONE, 0), 1);
        CHECK.due("count(-1, 1)", x.count(NONE, 1), RANGE);
        Check.row(x, "5 1 @0 01");
        CHECK.due("count(5, 1)", x.count(5, 1), 1);
        for (int rows : new int[] {-1, 2, 59, 60, 61, LEAST, MOST}) {
            CHECK.due("count(5, " + rows + ")", x.count(5, rows), RANGE);
            CHECK.due("count(-1, " + rows + ")", x.count(NONE, rows), RANGE);
            CHECK.due("count(-5, " + rows + ")", x.count(UNCLEAR, rows), RANGE);
        }
    }

    private static void patternPlaces() {
        CHECK.about("18: Place k of a row's PATTERN: 0 .. 255, or 256 for any byte");
        FormatRows x = new FormatRows();
        Check.row(x, "1 1 @0 00ff??7f80");
        Check.row(x, "1 1 @5 0102030405060708090a0b??");
        int[] want = {0, 255, 256, 127, 128};
        for (int k = 0; k < want.length; k++) {
            CHECK.due("pattern(0, " + k + ")", Check.pattern(x, 0, k), want[k]);
        }
        for (int k = 0; k < 12; k++) {
            CHECK.due("pattern(1, " + k + ")", Check.pattern(x, 1, k), k == 11 ? 256 : k + 1);
        }
    }

    private static void patternThrows() {
        CHECK.about("18: ArrayIndexOutOfBoundsException if there is none such");
        FormatRows x = new FormatRows();
        Check.row(x, "1 1 @0 " + "ee".repeat(12));
        Check.row(x, "1 1 @0 ee");
        Check.row(x, "1 1 @0 " + "ee".repeat(12));
        for (int k : new int[] {-1, 12, 13, 60, LEAST, MOST}) {
            CHECK.due("pattern(0, " + k + ")", Check.pattern(x, 0, k), THROWN);
            CHECK.due("pattern(1, " + k + ")", Check.pattern(x, 1, k), THROWN);
            CHECK.due("pattern(2, " + k + ")", Check.pattern(x, 2, k), THROWN);
        }
        CHECK.due("pattern(1, 0)", Check.pattern(x, 1, 0), 0xee);
        CHECK.due("pattern(1, 1)", Check.pattern(x, 1, 1), THROWN);
        CHECK.due("pattern(2, 11)", Check.pattern(x, 2, 11), 0xee);
    }

    private static void patternNoSuchRow() {
        CHECK.about("18: NONE if there is no such row");
        FormatRows x = new FormatRows();
        CHECK.due("no rows", Check.pattern(x, 0, 0), NONE);
        Check.row(x, "1 1 @0 ee");
        for (int row : new int[] {-1, 1, 59, 60, LEAST, MOST}) {
            for (int k : new int[] {-1, 0, 1, 12, LEAST, MOST}) {
                CHECK.due("pattern(" + row + ", " + k + ")", Check.pattern(x, row, k), NONE);
            }
        }
    }
}
