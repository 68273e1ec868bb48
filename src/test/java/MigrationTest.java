/** Promises 12, 13 and 14: obsolete, migration, becomes. */
public final class MigrationTest {
    private static final Check CHECK = new Check();
    private static final int[] NO_FORMATS = {-1, -2, 30, Integer.MIN_VALUE, Integer.MAX_VALUE};

    public static void main(String[] args) {
        wrongFormats();
        outOfDateOrNot();
        inPlaceOfTheOneBefore();
        rings();
        asLongAsOutOfDate();
        longChain();
        CHECK.end();
    }

    private static void wrongFormats() {
        FormatRows x = new FormatRows();
        for (int f : NO_FORMATS) {
            CHECK.due("obsolete(" + f + ", true)", x.obsolete(f, true), FormatRows.RANGE);
            CHECK.due("obsolete(" + f + ", false)", x.obsolete(f, false), FormatRows.RANGE);
            CHECK.due("becomes(" + f + ")", x.becomes(f), FormatRows.RANGE);
            CHECK.due("migration(" + f + ", 1)", x.migration(f, 1), FormatRows.RANGE);
            CHECK.due("migration(" + f + ", -1)", x.migration(f, -1), FormatRows.RANGE);
            CHECK.due("migration(" + f + ", itself)", x.migration(f, f), FormatRows.RANGE);
            CHECK.due("migration(1, " + f + ")", x.migration(1, f), f == -1 ? 1 : FormatRows.RANGE);
        }
        for (int f : new int[] {0, 29}) {
            CHECK.due("obsolete(" + f + ", true)", x.obsolete(f, true), 1);
            CHECK.due("migration(" + f + ", 15)", x.migration(f, 15), 1);
            CHECK.due("becomes(" + f + ")", x.becomes(f), 15);
            CHECK.due("migration(15, " + f + ")", x.migration(15, f), FormatRows.STATE);
        }
        x.obsolete(7, true);
        CHECK.due("to 0", x.migration(7, 0), 1);
        CHECK.due("to 29", x.migration(7, 29), 1);
    }

    private static void outOfDateOrNot() {
        FormatRows x = new FormatRows();
        x.migration(1, 2);
        CHECK.due("not out of date", x.becomes(1), FormatRows.NONE);
        CHECK.due("obsolete(1, true)", x.obsolete(1, true), 1);
        CHECK.due("out of date", x.becomes(1), 2);
        CHECK.due("again", x.obsolete(1, true), 1);
        CHECK.due("still out of date", x.becomes(1), 2);
        CHECK.due("obsolete(1, false)", x.obsolete(1, false), 1);
        CHECK.due("no more", x.becomes(1), FormatRows.NONE);
        x.obsolete(2, true);
        CHECK.due("without a migration", x.becomes(2), FormatRows.NONE);
        x.obsolete(1, true);
        CHECK.due("to one that is out of date, without a migration", x.becomes(1), 2);
    }

    private static void inPlaceOfTheOneBefore() {
        FormatRows x = new FormatRows();
        x.obsolete(1, true);
        x.migration(1, 2);
        CHECK.due("another one", x.migration(1, 3), 1);
        CHECK.due("becomes it", x.becomes(1), 3);
        CHECK.due("the one before is gone: migration(2, 1)", x.migration(2, 1), 1);
        CHECK.due("a ring is refused", x.migration(1, 2), FormatRows.STATE);
        CHECK.due("and leaves the one before", x.becomes(1), 3);
        CHECK.due("RANGE leaves it too", x.migration(1, 30), FormatRows.RANGE);
        CHECK.due("as it was", x.becomes(1), 3);
        CHECK.due("none any more", x.migration(1, -1), 1);
        CHECK.due("becomes nothing", x.becomes(1), FormatRows.NONE);
        CHECK.due("none where none was", x.migration(1, -1), 1);
    }

    private static void rings() {
        FormatRows x = new FormatRows();
        CHECK.due("itself", x.migration(4, 4), FormatRows.STATE);
        CHECK.due("4 to 5", x.migration(4, 5), 1);
        CHECK.due("5 to 4, none out of date", x.migration(5, 4), FormatRows.STATE);
        CHECK.due("5 to 6", x.migration(5, 6), 1);
        CHECK.due("6 to 4", x.migration(6, 4), FormatRows.STATE);
        CHECK.due("6 to 5", x.migration(6, 5), FormatRows.STATE);
        CHECK.due("4 to 6", x.migration(4, 6), 1);
        CHECK.due("6 to 7", x.migration(6, 7), 1);
        CHECK.due("8 to 4, from outside", x.migration(8, 4), 1);
        CHECK.due("5 to none", x.migration(5, -1), 1);
        CHECK.due("7 to 5", x.migration(7, 5), 1);
        CHECK.due("5 to 8", x.migration(5, 8), FormatRows.STATE);
        CHECK.due("the same one again", x.migration(4, 6), 1);
    }

    private static void asLongAsOutOfDate() {
        FormatRows x = new FormatRows();
        for (int f = 1; f < 5; f++) {
            x.migration(f, f + 1);
        }
        x.obsolete(1, true);
        x.obsolete(3, true);
        CHECK.due("2 is not out of date", x.becomes(1), 2);
        x.obsolete(2, true);
        CHECK.due("on to 4", x.becomes(1), 4);
        CHECK.due("from 2", x.becomes(2), 4);
        x.obsolete(5, true);
        CHECK.due("4 is not out of date", x.becomes(1), 4);
        x.obsolete(4, true);
        CHECK.due("5 has no migration", x.becomes(1), 5);
        CHECK.due("from 5", x.becomes(5), FormatRows.NONE);
        x.obsolete(3, false);
        CHECK.due("3 is not out of date any more", x.becomes(1), 3);
    }

    private static void longChain() {
        FormatRows x = new FormatRows();
        for (int f = 0; f < 29; f++) {
            x.obsolete(f, true);
            CHECK.due("chain from " + f, x.migration(f, f + 1), 1);
        }
        x.obsolete(29, true);
        CHECK.due("ring of thirty", x.migration(29, 0), FormatRows.STATE);
        CHECK.due("to its end", x.becomes(0), 29);
    }
}
