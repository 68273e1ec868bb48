/** Promises 15, 16 and 17: keep, changed, count. */
public final class KeepTest {
    private static final Check CHECK = new Check();

    public static void main(String[] args) {
        beforeKeep();
        byRows();
        byBytes();
        filesThatCameSince();
        unclear();
        wrongNumbers();
        counts();
        countLimits();
        CHECK.end();
    }

    private static void changed(FormatRows x, String when, int... want) {
        for (int i = 0; i < want.length; i++) {
            CHECK.due(when + ": changed(" + i + ")", x.changed(i), want[i]);
        }
        CHECK.due(when + ": changed(" + want.length + ")", x.changed(want.length), FormatRows.NONE);
    }

    private static void beforeKeep() {
        FormatRows x = new FormatRows();
        Check.file(x, 1);
        x.file();
        Check.file(x, 2);
        changed(x, "UNKNOWN is as if kept", 1);
        Check.row(x, "4 1 @0 02");
        changed(x, "a row came", 1, 2);
        CHECK.due("keep()", x.keep(), 1);
        changed(x, "kept");
    }

    private static void byRows() {
        FormatRows x = new FormatRows();
        for (int b = 1; b <= 4; b++) {
            Check.file(x, b);
        }
        Check.row(x, "1 1 @0 01");
        Check.row(x, "2 1 @0 02");
        CHECK.due("keep()", x.keep(), 2);
        changed(x, "nothing yet");
        Check.row(x, "1 5 @0 01");
        changed(x, "the same format by another row");
        Check.row(x, "7 0 @0 ??");
        changed(x, "UNKNOWN ones have a format", 2, 3);
        Check.row(x, "3 9 @0 01");
        changed(x, "another format", 0, 2, 3);
        Check.row(x, "1 9 @0 01");
        changed(x, "UNCLEAR is another one", 0, 2, 3);
        CHECK.due("keep() again", x.keep(), 6);
        changed(x, "kept again");
        Check.row(x, "9 9 @0 xx");
        CHECK.due("a wrong row doesn't count", x.keep(), 6);
        x.container(7, 7, 8);
        x.obsolete(7, true);
        changed(x, "containers and marks change none");
    }

    private static void byBytes() {
        FormatRows x = new FormatRows();
        int file = Check.file(x, 1);
        int empty = x.file();
        Check.row(x, "1 1 -1 01");
        Check.row(x, "0 1 @0 03");
        x.keep();
        x.octet(file, 2);
        changed(x, "its last byte is another one", file);
        x.octet(file, 1);
        changed(x, "its format is back");
        x.octet(empty, 3);
        changed(x, "a first byte, the same format");
        x.octet(empty, 9);
        changed(x, "the same format still");
        x.octet(empty, 1);
        changed(x, "then UNCLEAR", empty);
        CHECK.due("identify", x.identify(empty), FormatRows.UNCLEAR);
    }

    private static void filesThatCameSince() {
        FormatRows x = new FormatRows();
        Check.row(x, "1 1 @0 01");
        Check.file(x, 1);
        x.keep();
        int unknown = Check.file(x, 2);
        changed(x, "UNKNOWN, as if kept");
        int known = Check.file(x, 1);
        changed(x, "a format since", known);
        int empty = x.file();
        changed(x, "format 0 since", known, empty);
        CHECK.due("keep()", x.keep(), 1);
        changed(x, "kept");
        x.octet(unknown, 1);
        changed(x, "UNKNOWN for good");
    }

    private static void unclear() {
        FormatRows x = new FormatRows();
        Check.file(x, 1);
        Check.row(x, "1 1 @0 01");
        Check.row(x, "2 1 @0 01");
        x.keep();
        Check.row(x, "3 1 @0 01");
        changed(x, "UNCLEAR as before, one format more");
        Check.row(x, "4 2 @0 01");
        Check.row(x, "5 2 @0 01");
        changed(x, "UNCLEAR as before, of other formats");
        Check.row(x, "5 3 @0 01");
        changed(x, "clear", 0);
    }

    private static void wrongNumbers() {
        FormatRows x = new FormatRows();
        for (int i = 0; i < 40; i++) {
            x.file();
        }
        CHECK.due("changed(39)", x.changed(39), 39);
        for (int i : new int[] {-1, 40, 41, Integer.MIN_VALUE, Integer.MAX_VALUE}) {
            CHECK.due("changed(" + i + ")", x.changed(i), FormatRows.NONE);
        }
    }

    private static void counts() {
        FormatRows x = new FormatRows();
        for (int b : new int[] {1, 1, 2, 3}) {
            Check.file(x, b);
        }
        x.file();
        Check.row(x, "1 1 @0 01");
        Check.row(x, "0 0 @0 02");
        Check.row(x, "29 1 @0 01");
        Check.row(x, "29 2 @0 ??");
        int[][] formatRowsMany = {
            {-1, 0, 4}, {0, 0, 1}, {1, 0, 0}, {-5, 0, 0},
            {-1, 1, 2}, {0, 1, 1}, {1, 1, 2}, {-5, 1, 0},
            {-1, 2, 1}, {0, 2, 2}, {1, 2, 2}, {-5, 2, 0},
            {-1, 3, 1}, {0, 3, 2}, {1, 3, 0}, {-5, 3, 2}, {29, 3, 0},
            {-1, 4, 0}, {0, 4, 1}, {1, 4, 0}, {-5, 4, 0}, {29, 4, 4},
        };
        for (int[] due : formatRowsMany) {
            CHECK.due("count(" + due[0] + ", " + due[1] + ")", x.count(due[0], due[1]), due[2]);
        }
        x.keep();
        CHECK.due("what was kept is no matter", x.count(1, 1), 2);
        x.container(29, 29, 5);
        x.member(0, 1);
        CHECK.due("nor are containers", x.count(5, 4), 0);
    }

    private static void countLimits() {
        FormatRows x = new FormatRows();
        Check.file(x, 1);
        Check.row(x, "1 1 @0 01");
        for (int f : new int[] {-2, -3, -4, -6, 30, Integer.MIN_VALUE, Integer.MAX_VALUE}) {
            CHECK.due("count(" + f + ", 0)", x.count(f, 0), FormatRows.RANGE);
        }
        for (int r : new int[] {-1, 2, 60, Integer.MIN_VALUE, Integer.MAX_VALUE}) {
            CHECK.due("count(1, " + r + ")", x.count(1, r), FormatRows.RANGE);
            CHECK.due("count(-1, " + r + ")", x.count(-1, r), FormatRows.RANGE);
        }
        CHECK.due("count(1, 1)", x.count(1, 1), 1);
        CHECK.due("count(29, 1)", x.count(29, 1), 0);
    }
}
