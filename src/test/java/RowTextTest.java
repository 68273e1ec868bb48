/** Promises 2, 3 and 18: sign, row, pattern. */
public final class RowTextTest {
    private static final Check CHECK = new Check();
    private static final String TWELVE = "000102030405060708090a0b";

    public static void main(String[] args) {
        rightRows();
        wrongNumbers();
        wrongBlanksAndOffsets();
        wrongPatterns();
        everySign();
        lowestEightBits();
        signsBeyondSixty();
        nothingIsLeftOfTextsBefore();
        sixtyRows();
        patterns();
        CHECK.end();
    }

    private static void rightRows() {
        String[] right = {
            "0 0 @0 00", "00 0 @0 00", "29 9 @999 ff", "9 1 @000 ??", "09 1 -0 ??",
            "1 1 -999 a0", "1 1 @12 0a??", "1 1 @1 " + TWELVE, "1 1 @1 ????????????????????????",
            "29 9 -999 " + TWELVE,
        };
        FormatRows x = new FormatRows();
        for (int i = 0; i < right.length; i++) {
            CHECK.due("row of '" + right[i] + "'", Check.row(x, right[i]), i);
        }
    }

    private static void wrong(String text, int place) {
        FormatRows x = new FormatRows();
        CHECK.due("row of '" + text + "'", Check.row(x, text), -10 - place);
        CHECK.due("pattern(0, 0) after '" + text + "'", Check.pattern(x, 0, 0), FormatRows.NONE);
        CHECK.due("a right row after '" + text + "'", Check.row(x, "1 1 @0 00"), 0);
    }

    private static void wrongNumbers() {
        wrong("", 0);
        wrong(" ", 0);
        wrong("a 1 @0 00", 0);
        wrong("-1 1 @0 00", 0);
        wrong("30 1 @0 00", 0);
        wrong("99", 0);
        wrong("30", 0);
        wrong("001 1 @0 00", 0);
        wrong("100", 0);
        wrong("4294967297 1 @0 00", 0);
        wrong("1 12 @0 00", 2);
        wrong("1 00 @0 00", 2);
        wrong("29 10 @0 00", 3);
        wrong("1 x @0 00", 2);
        wrong("1 ", 2);
        wrong("1 1 @1000 00", 5);
        wrong("1 1 @0000 00", 5);
        wrong("1 1 -1000 00", 5);
        wrong("1 1 -0001", 5);
        wrong("1 1 @", 5);
        wrong("1 1 -", 5);
        wrong("1 1 @ 00", 5);
        wrong("1 1 --1 00", 5);
        wrong("1 1 @-1 00", 5);
        wrong("1 1 -x 00", 5);
    }

    private static void wrongBlanksAndOffsets() {
        wrong("1", 1);
        wrong("29", 2);
        wrong("1x1 @0 00", 1);
        wrong("1  1 @0 00", 2);
        wrong("1 1", 3);
        wrong("1 1@0 00", 3);
        wrong("1 1 ", 4);
        wrong("1 1  @0 00", 4);
        wrong("1 1 0 00", 4);
        wrong("1 1 +1 00", 4);
        wrong("1 1 @0", 6);
        wrong("1 1 @999", 8);
        wrong("1 1 @0x00", 6);
        wrong("1 1 @0\t00", 6);
        wrong(" 1 1 @0 00", 0);
    }

    private static void wrongPatterns() {
        wrong("1 1 @0 ", 7);
        wrong("1 1 @0  00", 7);
        wrong("1 1 @0 0", 8);
        wrong("1 1 @0 ?", 8);
        wrong("1 1 @0 ?0", 8);
        wrong("1 1 @0 0?", 8);
        wrong("1 1 @0 ?a", 8);
        wrong("1 1 @0 A0", 7);
        wrong("1 1 @0 0F", 8);
        wrong("1 1 @0 g0", 7);
        wrong("1 1 @0 0g", 8);
        wrong("1 1 @0 `0", 7);
        wrong("1 1 @0 /0", 7);
        wrong("1 1 @0 :0", 7);
        wrong("1 1 @0 00 ", 9);
        wrong("1 1 @0 00 00", 9);
        wrong("1 1 @0 000", 10);
        wrong("1 1 @0 00?", 10);
        wrong("1 1 @0 00??x", 11);
        wrong("1 1 @0 " + TWELVE + "00", 31);
        wrong("1 1 @0 " + TWELVE + "0", 31);
        wrong("1 1 @0 " + TWELVE + "??", 31);
        wrong("1 1 @0 " + TWELVE + " ", 31);
        wrong("29 9 @999 " + TWELVE + "00", 34);
        wrong("1 1 @0 " + TWELVE.substring(2) + "0x", 30);
    }

    /** Each of the 256 signs in each place of some rows, in place of the one there and as one more. */
    private static void everySign() {
        String[] texts = {"29 9 @9 00", "3 1 -12 ??a1", "07 0 @999 " + TWELVE};
        for (String text : texts) {
            for (int place = 0; place <= text.length(); place++) {
                for (int c = 0; c < 256; c++) {
                    String before = text.substring(0, place) + (char) c;
                    asTheGrammarSays(before);
                    asTheGrammarSays(before + text.substring(place));
                    asTheGrammarSays(before + text.substring(Math.min(place + 1, text.length())));
                }
            }
        }
    }

    private static void asTheGrammarSays(String text) {
        int place = Model.wrongPlace(text);
        CHECK.due("row of '" + text + "'", Check.row(new FormatRows(), text), place < 0 ? 0 : -10 - place);
    }

    private static void lowestEightBits() {
        FormatRows x = new FormatRows();
        String text = "7 3 -2 a5??";
        for (int i = 0; i < text.length(); i++) {
            x.sign(text.charAt(i) + (i % 2 == 0 ? 256 * (i + 1) : -256));
        }
        CHECK.due("row of signs above 255 and below 0", x.row(), 0);
        CHECK.due("its pattern(0, 0)", Check.pattern(x, 0, 0), 0xa5);
        x.sign(Integer.MAX_VALUE);
        CHECK.due("row of the greatest sign", x.row(), -10);
    }

    private static void signsBeyondSixty() {
        FormatRows x = new FormatRows();
        for (int many : new int[] {59, 60, 61, 100}) {
            CHECK.due("row of " + many + " digits", Check.row(x, "1".repeat(many)), -10);
        }
        CHECK.due("row of 32 and 80 signs", Check.row(x, "1 1 @0 " + TWELVE + " ".repeat(80)), -41);
        x = new FormatRows();
        for (int i = 0; i < 200; i++) {
            x.sign('x');
        }
        CHECK.due("row of 200 signs", x.row(), -10);
        CHECK.due("a row after it", Check.row(x, "1 1 @0 00"), 0);
    }

    private static void nothingIsLeftOfTextsBefore() {
        String text = "1 1 @0 0000";
        for (int length = 0; length < text.length(); length++) {
            FormatRows x = new FormatRows();
            Check.row(x, text);
            int want = length == 9 ? 1 : -10 - length;
            CHECK.due("row of " + length + " signs after a longer one", Check.row(x, text.substring(0, length)), want);
        }
    }

    /** 60 rows take more than the 512 calls that are promised; the limit must hold all the same. */
    private static void sixtyRows() {
        FormatRows x = new FormatRows();
        for (int i = 0; i < 60; i++) {
            CHECK.due("row " + i, Check.row(x, i % 30 + " 1 @0 " + "0" + i % 10), i);
        }
        CHECK.due("row 60", Check.row(x, "1 1 @0 00"), FormatRows.FULL);
        CHECK.due("a wrong row when full", Check.row(x, "1 1 @0 0x"), -18);
        CHECK.due("nothing told when full", x.row(), -10);
        Check.row(x, "1 1 @0 ff");
        CHECK.due("after FULL nothing is told any more", x.row(), -10);
        CHECK.due("the last row's pattern", Check.pattern(x, 59, 0), 9);
        CHECK.due("pattern(60, 0)", Check.pattern(x, 60, 0), FormatRows.NONE);
        CHECK.due("keep()", x.keep(), 60);
    }

    private static void patterns() {
        FormatRows x = new FormatRows();
        Check.row(x, "1 1 @0 00ff??9a");
        Check.row(x, "1 1 @0 " + TWELVE);
        Check.row(x, "1 1 @0 e7");
        int[] want = {0, 255, 256, 0x9a, Check.THROWN};
        for (int k = 0; k < want.length; k++) {
            CHECK.due("pattern(0, " + k + ")", Check.pattern(x, 0, k), want[k]);
        }
        for (int k = 0; k < 12; k++) {
            CHECK.due("pattern(1, " + k + ")", Check.pattern(x, 1, k), k);
        }
        CHECK.due("pattern(1, 12)", Check.pattern(x, 1, 12), Check.THROWN);
        CHECK.due("pattern(2, 0)", Check.pattern(x, 2, 0), 0xe7);
        CHECK.due("pattern(2, 1)", Check.pattern(x, 2, 1), Check.THROWN);
        for (int k : new int[] {-1, Integer.MIN_VALUE, Integer.MAX_VALUE, 1000}) {
            CHECK.due("pattern(1, " + k + ")", Check.pattern(x, 1, k), Check.THROWN);
            CHECK.due("pattern(3, " + k + ")", Check.pattern(x, 3, k), FormatRows.NONE);
            CHECK.due("pattern(" + k + ", 0)", Check.pattern(x, k, 0), FormatRows.NONE);
        }
    }
}
