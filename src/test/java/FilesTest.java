/** Promises 4, 5 and 6: octet, file, member. */
public final class FilesTest {
    private static final Check CHECK = new Check();

    public static void main(String[] args) {
        fortyFiles();
        sixtyBytes();
        lowestEightBits();
        noSuchFile();
        members();
        membersOfItself();
        eightMembers();
        longChain();
        CHECK.end();
    }

    private static void fortyFiles() {
        FormatRows x = new FormatRows();
        for (int i = 0; i < 40; i++) {
            CHECK.due("octet before file " + i, x.octet(i, 1), FormatRows.NONE);
            CHECK.due("file " + i, x.file(), i);
            CHECK.due("octet after file " + i, x.octet(i, 1), 1);
        }
        CHECK.due("file 40", x.file(), FormatRows.FULL);
        CHECK.due("file 40 again", x.file(), FormatRows.FULL);
        CHECK.due("octet(40, 1)", x.octet(40, 1), FormatRows.NONE);
        CHECK.due("octet(39, 1)", x.octet(39, 1), 2);
    }

    private static void sixtyBytes() {
        FormatRows x = new FormatRows();
        x.file();
        x.file();
        for (int i = 1; i <= 60; i++) {
            CHECK.due("octet " + i, x.octet(0, i), i);
        }
        CHECK.due("octet 61", x.octet(0, 99), FormatRows.FULL);
        CHECK.due("octet 61 again", x.octet(0, 99), FormatRows.FULL);
        CHECK.due("the other file", x.octet(1, 7), 1);
        Check.row(x, "5 0 @59 3c");
        Check.row(x, "6 0 @0 07");
        Check.row(x, "7 0 @60 ??");
        CHECK.due("the last byte", x.meets(0, 0), 1);
        CHECK.due("the other file's byte", x.meets(1, 1), 1);
        CHECK.due("no byte behind the last", x.meets(2, 0), 0);
    }

    private static void lowestEightBits() {
        FormatRows x = new FormatRows();
        Check.file(x, 256 + 7, -1, Integer.MIN_VALUE, Integer.MAX_VALUE);
        CHECK.due("row", Check.row(x, "1 1 @0 07ff00ff"), 0);
        CHECK.due("meets(0, 0)", x.meets(0, 0), 1);
    }

    private static void noSuchFile() {
        FormatRows x = new FormatRows();
        x.file();
        for (int f : new int[] {-1, 1, 40, Integer.MIN_VALUE, Integer.MAX_VALUE}) {
            CHECK.due("octet(" + f + ", 1)", x.octet(f, 1), FormatRows.NONE);
            CHECK.due("member(" + f + ", 0)", x.member(f, 0), FormatRows.NONE);
            CHECK.due("member(0, " + f + ")", x.member(0, f), FormatRows.NONE);
            CHECK.due("member(" + f + ", " + f + ")", x.member(f, f), FormatRows.NONE);
        }
    }

    private static void members() {
        FormatRows x = new FormatRows();
        for (int i = 0; i < 5; i++) {
            x.file();
        }
        CHECK.due("member(1, 0)", x.member(1, 0), 1);
        CHECK.due("member(2, 0)", x.member(2, 0), 2);
        CHECK.due("member(3, 1)", x.member(3, 1), 1);
        CHECK.due("a member of the same: member(1, 0)", x.member(1, 0), FormatRows.STATE);
        CHECK.due("a member of another: member(3, 2)", x.member(3, 2), FormatRows.STATE);
        CHECK.due("refused ones don't count: member(4, 0)", x.member(4, 0), 3);
        CHECK.due("nor here: octet(4, 1)", x.octet(4, 1), 1);
    }

    private static void membersOfItself() {
        FormatRows x = new FormatRows();
        for (int i = 0; i < 4; i++) {
            x.file();
        }
        CHECK.due("itself: member(0, 0)", x.member(0, 0), FormatRows.STATE);
        CHECK.due("member(1, 0)", x.member(1, 0), 1);
        CHECK.due("its member: member(0, 1)", x.member(0, 1), FormatRows.STATE);
        CHECK.due("member(2, 1)", x.member(2, 1), 1);
        CHECK.due("its member's member: member(0, 2)", x.member(0, 2), FormatRows.STATE);
        CHECK.due("above what has members: member(0, 3)", x.member(0, 3), 1);
        CHECK.due("member(3, 2)", x.member(3, 2), FormatRows.STATE);
    }

    private static void eightMembers() {
        FormatRows x = new FormatRows();
        for (int i = 0; i < 12; i++) {
            x.file();
        }
        for (int i = 1; i <= 8; i++) {
            CHECK.due("member(" + i + ", 0)", x.member(i, 0), i);
        }
        CHECK.due("member(9, 0)", x.member(9, 0), FormatRows.FULL);
        CHECK.due("STATE comes before FULL: member(1, 0)", x.member(1, 0), FormatRows.STATE);
        CHECK.due("STATE comes before FULL: member(0, 0)", x.member(0, 0), FormatRows.STATE);
        CHECK.due("NONE comes before FULL: member(12, 0)", x.member(12, 0), FormatRows.NONE);
        CHECK.due("FULL left it free: member(9, 10)", x.member(9, 10), 1);
        CHECK.due("a full file as a member: member(0, 11)", x.member(0, 11), 1);
    }

    private static void longChain() {
        FormatRows x = new FormatRows();
        for (int i = 0; i < 40; i++) {
            x.file();
        }
        for (int i = 1; i < 40; i++) {
            CHECK.due("chain: member(" + i + ", " + (i - 1) + ")", x.member(i, i - 1), 1);
        }
        CHECK.due("ring of forty: member(0, 39)", x.member(0, 39), FormatRows.STATE);
        CHECK.due("ring of twenty: member(0, 19)", x.member(0, 19), FormatRows.STATE);
    }
}
