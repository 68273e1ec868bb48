/** Promises 7, 8 and 9: identify, found, meets. */
public final class IdentifyTest {
    private static final Check CHECK = new Check();

    public static void main(String[] args) {
        meetsFromTheStart();
        meetsFromTheEnd();
        meetsWhatIsNotThere();
        greatestRank();
        severalFormats();
        everyFormat();
        withoutBytes();
        foundIsOfTheLatest();
        wrongFiles();
        CHECK.end();
    }

    private static void meets(FormatRows x, String row, int file, int want) {
        CHECK.due("'" + row + "' meets file " + file, x.meets(Check.row(x, row), file), want);
    }

    private static void meetsFromTheStart() {
        FormatRows x = new FormatRows();
        int file = Check.file(x, 0x10, 0x20, 0x30);
        meets(x, "1 1 @0 10", file, 1);
        meets(x, "1 1 @0 11", file, 0);
        meets(x, "1 1 @0 102030", file, 1);
        meets(x, "1 1 @0 10203000", file, 0);
        meets(x, "1 1 @0 102030??", file, 0);
        meets(x, "1 1 @0 10??30", file, 1);
        meets(x, "1 1 @0 10??31", file, 0);
        meets(x, "1 1 @1 2030", file, 1);
        meets(x, "1 1 @2 ??", file, 1);
        meets(x, "1 1 @3 ??", file, 0);
        meets(x, "1 1 @2 ????", file, 0);
        meets(x, "1 1 @999 ??", file, 0);
        meets(x, "1 1 @002 30", file, 1);
        meets(x, "1 1 @1 10", file, 0);
    }

    private static void meetsFromTheEnd() {
        FormatRows x = new FormatRows();
        int file = Check.file(x, 0x10, 0x20, 0x30);
        meets(x, "1 1 -1 30", file, 1);
        meets(x, "1 1 -1 3040", file, 0);
        meets(x, "1 1 -1 ????", file, 0);
        meets(x, "1 1 -0 ??", file, 0);
        meets(x, "1 1 -3 102030", file, 1);
        meets(x, "1 1 -3 10", file, 1);
        meets(x, "1 1 -3 30", file, 0);
        meets(x, "1 1 -4 ??102030", file, 0);
        meets(x, "1 1 -4 ??", file, 0);
        meets(x, "1 1 -999 ??", file, 0);
        x.octet(file, 0x40);
        CHECK.due("the end has moved: meets(0, 0)", x.meets(0, file), 0);
        CHECK.due("the end has moved: meets(1, 0)", x.meets(1, file), 0);
        meets(x, "1 1 -2 3040", file, 1);
    }

    private static void meetsWhatIsNotThere() {
        FormatRows x = new FormatRows();
        int file = Check.file(x, 1);
        int row = Check.row(x, "1 1 @0 01");
        CHECK.due("meets(0, 0)", x.meets(row, file), 1);
        for (int n : new int[] {-1, 1, 40, 60, Integer.MIN_VALUE, Integer.MAX_VALUE}) {
            CHECK.due("meets(" + n + ", 0)", x.meets(n, file), FormatRows.NONE);
            CHECK.due("meets(0, " + n + ")", x.meets(row, n), FormatRows.NONE);
        }
        int empty = x.file();
        CHECK.due("a file without bytes", x.meets(row, empty), 0);
        meets(x, "0 1 -0 ??", empty, 0);
        meets(x, "0 1 @0 ??", empty, 0);
    }

    private static void greatestRank() {
        FormatRows x = new FormatRows();
        int file = Check.file(x, 5, 6);
        CHECK.due("no rows", x.identify(file), FormatRows.NONE);
        Check.row(x, "1 9 @0 06");
        CHECK.due("no row meets it", x.identify(file), FormatRows.NONE);
        CHECK.due("nothing found", Check.found(x, 0), Check.THROWN);
        Check.row(x, "2 0 @0 05");
        CHECK.due("rank 0", x.identify(file), 2);
        Check.row(x, "4 5 @0 0506");
        CHECK.due("rank 5", x.identify(file), 4);
        Check.row(x, "3 4 @0 05");
        CHECK.due("rank 4 is less", x.identify(file), 4);
        CHECK.due("found(0)", Check.found(x, 0), 4);
        CHECK.due("found(1)", Check.found(x, 1), Check.THROWN);
        Check.row(x, "4 5 -1 06");
        CHECK.due("the same format twice", x.identify(file), 4);
        CHECK.due("found(1) of the same twice", Check.found(x, 1), Check.THROWN);
        Check.row(x, "0 9 @0 ??");
        CHECK.due("rank 9", x.identify(file), 0);
        CHECK.due("found(0) of format 0", Check.found(x, 0), 0);
    }

    private static void severalFormats() {
        FormatRows x = new FormatRows();
        int file = Check.file(x, 5);
        Check.row(x, "29 3 @0 05");
        Check.row(x, "8 3 -1 ??");
        Check.row(x, "1 2 @0 05");
        Check.row(x, "29 3 @0 ??");
        Check.row(x, "10 3 @0 ??");
        CHECK.due("several", x.identify(file), FormatRows.UNCLEAR);
        int[] want = {8, 10, 29, Check.THROWN};
        for (int i = 0; i < want.length; i++) {
            CHECK.due("found(" + i + ")", Check.found(x, i), want[i]);
        }
        Check.row(x, "1 4 @0 05");
        CHECK.due("found before it is identified again", Check.found(x, 0), 8);
        CHECK.due("a greater rank ends it", x.identify(file), 1);
        CHECK.due("found(0) then", Check.found(x, 0), 1);
        CHECK.due("found(1) then", Check.found(x, 1), Check.THROWN);
    }

    private static void everyFormat() {
        FormatRows x = new FormatRows();
        int file = Check.file(x, 5);
        for (int f = 29; f >= 0; f--) {
            Check.row(x, f + " 3 @0 05");
        }
        CHECK.due("thirty formats", x.identify(file), FormatRows.UNCLEAR);
        for (int f = 0; f < 30; f++) {
            CHECK.due("found(" + f + ")", Check.found(x, f), f);
        }
        for (int i : new int[] {-1, 30, 31, 32, Integer.MIN_VALUE, Integer.MAX_VALUE}) {
            CHECK.due("found(" + i + ")", Check.found(x, i), Check.THROWN);
        }
    }

    private static void withoutBytes() {
        FormatRows x = new FormatRows();
        int file = x.file();
        CHECK.due("without rows", x.identify(file), 0);
        CHECK.due("found(0)", Check.found(x, 0), 0);
        CHECK.due("found(1)", Check.found(x, 1), Check.THROWN);
        Check.row(x, "5 9 @0 ??");
        Check.row(x, "6 9 -0 ??");
        CHECK.due("with rows", x.identify(file), 0);
        x.octet(file, 1);
        CHECK.due("with a byte", x.identify(file), 5);
    }

    private static void foundIsOfTheLatest() {
        FormatRows x = new FormatRows();
        int first = Check.file(x, 1);
        int second = Check.file(x, 2);
        int third = Check.file(x, 3);
        Check.row(x, "5 1 @0 01");
        Check.row(x, "6 1 @0 02");
        x.identify(first);
        x.identify(second);
        CHECK.due("of the second", Check.found(x, 0), 6);
        x.identify(first);
        CHECK.due("of the first", Check.found(x, 0), 5);
        x.deep(second);
        x.meets(1, second);
        x.keep();
        x.changed(0);
        x.count(6, 2);
        CHECK.due("by identify alone", Check.found(x, 0), 5);
        CHECK.due("no such file", x.identify(9), FormatRows.RANGE);
        CHECK.due("no file was identified", Check.found(x, 0), 5);
        CHECK.due("of none", x.identify(third), FormatRows.NONE);
        CHECK.due("nothing found", Check.found(x, 0), Check.THROWN);
    }

    private static void wrongFiles() {
        FormatRows x = new FormatRows();
        x.file();
        for (int f : new int[] {-1, 1, 40, Integer.MIN_VALUE, Integer.MAX_VALUE}) {
            CHECK.due("identify(" + f + ")", x.identify(f), FormatRows.RANGE);
            CHECK.due("found(0)", Check.found(x, 0), Check.THROWN);
        }
    }
}
