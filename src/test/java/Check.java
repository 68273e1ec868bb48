/** Counts the answers that are not as due, and the few calls that most tests need. */
final class Check {
    /** Stands for an ArrayIndexOutOfBoundsException; no call answers it. */
    static final int THROWN = Integer.MIN_VALUE;

    private int seen = 0;
    private int wrong = 0;
    private String about = "";

    /** The words of the document that the answers from here on are due by. */
    void about(String words) {
        about = "[" + words + "] ";
    }

    void due(String call, long got, long want) {
        seen++;
        if (got != want) {
            wrong++;
            System.out.println(about + call + " answered " + got + ", due is " + want);
        }
    }

    void end() {
        System.out.println(seen + " answers looked at, " + wrong + " not as due");
        if (wrong != 0 || seen == 0) {
            System.exit(1);
        }
    }

    static void tell(FormatRows x, String text) {
        for (int i = 0; i < text.length(); i++) {
            x.sign(text.charAt(i));
        }
    }

    static int row(FormatRows x, String text) {
        tell(x, text);
        return x.row();
    }

    /** A file more with these bytes: its number. */
    static int file(FormatRows x, int... bytes) {
        int file = x.file();
        for (int b : bytes) {
            x.octet(file, b);
        }
        return file;
    }

    /** So many files more, without bytes. */
    static void files(FormatRows x, int many) {
        for (int i = 0; i < many; i++) {
            x.file();
        }
    }

    static int found(FormatRows x, int i) {
        try {
            return x.found(i);
        } catch (ArrayIndexOutOfBoundsException e) {
            return THROWN;
        }
    }

    static int pattern(FormatRows x, int row, int k) {
        try {
            return x.pattern(row, k);
        } catch (ArrayIndexOutOfBoundsException e) {
            return THROWN;
        }
    }
}
