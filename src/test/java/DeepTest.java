/** Promises 10 and 11: container, deep. */
public final class DeepTest {
    private static final Check CHECK = new Check();

    public static void main(String[] args) {
        containerRows();
        wrongFormats();
        withoutMembers();
        latestThatHolds();
        anyMember();
        depths();
        noContainers();
        withoutBytes();
        fortyFiles();
        CHECK.end();
    }

    private static void containerRows() {
        FormatRows x = new FormatRows();
        for (int i = 0; i < 20; i++) {
            CHECK.due("container " + i, x.container(29, 0, i), i);
        }
        CHECK.due("container 20", x.container(1, 1, 1), FormatRows.FULL);
        CHECK.due("RANGE comes before FULL", x.container(30, 1, 1), FormatRows.RANGE);
    }

    private static void wrongFormats() {
        FormatRows x = new FormatRows();
        for (int f : new int[] {-1, -5, 30, Integer.MIN_VALUE, Integer.MAX_VALUE}) {
            CHECK.due("container(" + f + ", 0, 0)", x.container(f, 0, 0), FormatRows.RANGE);
            CHECK.due("container(0, " + f + ", 0)", x.container(0, f, 0), FormatRows.RANGE);
            CHECK.due("container(0, 0, " + f + ")", x.container(0, 0, f), FormatRows.RANGE);
            CHECK.due("deep(" + f + ")", x.deep(f), FormatRows.RANGE);
        }
        CHECK.due("refused ones don't count", x.container(29, 29, 29), 0);
        x.file();
        CHECK.due("deep(1)", x.deep(1), FormatRows.RANGE);
    }

    /** A file with byte n has the format n, for n from 1 to 9. */
    private static FormatRows nineFormats() {
        FormatRows x = new FormatRows();
        for (int n = 1; n <= 9; n++) {
            Check.row(x, n + " 1 @0 0" + n);
        }
        return x;
    }

    private static void withoutMembers() {
        FormatRows x = nineFormats();
        int file = Check.file(x, 3);
        x.container(3, 3, 7);
        CHECK.due("its own format is no member's", x.deep(file), 3);
    }

    private static void latestThatHolds() {
        FormatRows x = nineFormats();
        int file = Check.file(x, 1);
        x.member(Check.file(x, 2), file);
        x.member(Check.file(x, 3), file);
        CHECK.due("no container rows", x.deep(file), 1);
        x.container(2, 2, 20);
        x.container(1, 4, 21);
        CHECK.due("none holds", x.deep(file), 1);
        x.container(1, 3, 22);
        CHECK.due("one holds", x.deep(file), 22);
        x.container(1, 2, 23);
        CHECK.due("the latest counts", x.deep(file), 23);
        x.container(1, 4, 24);
        x.container(4, 2, 25);
        CHECK.due("the latest that holds", x.deep(file), 23);
        x.container(1, 3, 1);
        CHECK.due("its own format as a target", x.deep(file), 1);
        CHECK.due("THE FORMAT is as before", x.identify(file), 1);
    }

    private static void anyMember() {
        FormatRows x = nineFormats();
        int file = Check.file(x, 1);
        for (int i = 0; i < 7; i++) {
            x.member(Check.file(x, 5), file);
        }
        x.container(1, 6, 10);
        CHECK.due("seven others", x.deep(file), 1);
        int last = Check.file(x, 6);
        CHECK.due("not a member yet", x.deep(file), 1);
        x.member(last, file);
        CHECK.due("the eighth", x.deep(file), 10);
        x.octet(last, 0);
        CHECK.due("its first byte is as before", x.deep(file), 10);
        Check.row(x, "7 2 -1 00");
        CHECK.due("the eighth is another one", x.deep(file), 1);
    }

    private static void depths() {
        FormatRows x = nineFormats();
        for (int i = 0; i < 5; i++) {
            Check.file(x, i < 4 ? 1 : 2);
        }
        for (int i = 4; i > 0; i--) {
            x.member(i, i - 1);
        }
        x.container(1, 1, 3);
        x.container(1, 2, 4);
        x.container(1, 3, 5);
        x.container(1, 4, 6);
        x.container(1, 5, 7);
        CHECK.due("without members", x.deep(4), 2);
        CHECK.due("its member at depth 1", x.deep(3), 4);
        CHECK.due("down to depth 2", x.deep(2), 6);
        CHECK.due("down to depth 3, and 6 is not wanted", x.deep(1), 1);
        // The files at depths 3, 2, 1, 0 come to 1, 3, 5, 7.
        CHECK.due("one at depth 3 is not looked into", x.deep(0), 7);
        x.container(1, 6, 8);
        CHECK.due("down to depth 3, and 6 is wanted", x.deep(1), 8);
        CHECK.due("as before", x.deep(0), 7);
    }

    private static void noContainers() {
        FormatRows x = nineFormats();
        int unknown = Check.file(x, 0x77);
        int unclear = Check.file(x, 0x66);
        int outer = Check.file(x, 1);
        Check.row(x, "3 1 @0 66");
        Check.row(x, "4 1 @0 66");
        x.member(Check.file(x, 2), unknown);
        x.member(Check.file(x, 2), unclear);
        for (int f = 0; f < 5; f++) {
            x.container(f, 2, 9);
        }
        CHECK.due("UNKNOWN", x.deep(unknown), FormatRows.NONE);
        CHECK.due("UNCLEAR", x.deep(unclear), FormatRows.UNCLEAR);
        x.member(unknown, outer);
        x.member(unclear, outer);
        for (int f = 0; f < 15; f++) {
            x.container(1, f == 2 ? 9 : f, 9);
        }
        CHECK.due("they are wanted by none", x.deep(outer), 1);
    }

    private static void withoutBytes() {
        FormatRows x = nineFormats();
        int empty = x.file();
        int outer = Check.file(x, 1);
        x.member(empty, outer);
        x.container(1, 0, 12);
        CHECK.due("a member without bytes has format 0", x.deep(outer), 12);
        x.member(Check.file(x, 5), empty);
        x.container(0, 5, 13);
        CHECK.due("a container without bytes", x.deep(empty), 13);
        CHECK.due("its DEEP FORMAT is what counts outside", x.deep(outer), 1);
        x.container(1, 13, 14);
        CHECK.due("and is wanted", x.deep(outer), 14);
    }

    private static void fortyFiles() {
        FormatRows x = nineFormats();
        int first = Check.file(x, 1);
        x.container(1, 0, 15);
        CHECK.due("a file that is not there is no member", x.deep(first), 1);
        for (int i = 1; i < 40; i++) {
            CHECK.due("file " + i, x.file(), i);
            CHECK.due("no member with " + i + " files more", x.deep(first), 1);
        }
        x.member(39, 0);
        CHECK.due("the last file is a member", x.deep(first), 15);
    }
}
