import java.util.Arrays;

/**
 * Tells files' formats by rows with byte patterns, and what later rows would change.
 * The document FormatRows numbers the promises that this class keeps.
 */
public final class FormatRows {
    public static final int NONE = -1;
    public static final int RANGE = -2;
    public static final int STATE = -3;
    public static final int FULL = -4;
    public static final int UNCLEAR = -5;

    private static final int FORMATS = 30;
    private static final int MOST_SIGNS = 60;
    private static final int MOST_ROWS = 60;
    private static final int MOST_PLACES = 12;
    private static final int MOST_FILES = 40;
    private static final int MOST_BYTES = 60;
    private static final int MOST_MEMBERS = 8;
    private static final int MOST_CONTAINERS = 20;
    private static final int DEPTH_NOT_LOOKED_INTO = 3;
    private static final int WRONG_AT_START = -10;
    private static final int ANY_BYTE = 256;
    private static final int LOW_EIGHT_BITS = 255;
    private static final int FORMAT_WITHOUT_BYTES = 0;

    private final RowText told;
    private final Rows rows;
    private final Files files;
    private final Containers containers;
    private final Migrations migrations;
    private final int[] kept;
    // A set of formats is an int with bit f for format f: 30 formats leave room in it.
    private int foundSet;

    public FormatRows() {
        told = new RowText();
        rows = new Rows();
        files = new Files();
        containers = new Containers();
        migrations = new Migrations();
        kept = new int[MOST_FILES];
        // Files that come later count as if UNKNOWN was kept for them.
        Arrays.fill(kept, NONE);
        foundSet = 0;
    }

    public void sign(int c) {
        told.add(c & LOW_EIGHT_BITS);
    }

    public int row() {
        boolean right = told.read();
        told.forget();
        if (!right) {
            return WRONG_AT_START - told.at;
        }
        return rows.add(told);
    }

    public int octet(int file, int b) {
        if (!files.has(file)) {
            return NONE;
        }
        return files.addByte(file, b & LOW_EIGHT_BITS);
    }

    public int file() {
        return files.add();
    }

    public int member(int file, int of) {
        if (!files.has(file) || !files.has(of)) {
            return NONE;
        }
        if (files.isMember(file) || files.isInside(of, file)) {
            return STATE;
        }
        return files.addMember(file, of);
    }

    public int identify(int file) {
        if (!files.has(file)) {
            return RANGE;
        }
        foundSet = formatsOf(file, rows.size);
        return formatOfSet(foundSet);
    }

    public int found(int i) throws ArrayIndexOutOfBoundsException {
        int format = formatInSet(foundSet, i);
        if (format == NONE) {
            throw new ArrayIndexOutOfBoundsException("no such format was found");
        }
        return format;
    }

    public int meets(int row, int file) {
        if (!rows.has(row) || !files.has(file)) {
            return NONE;
        }
        return fits(row, file) ? 1 : 0;
    }

    public int container(int format, int wanted, int target) {
        if (!isFormat(format) || !isFormat(wanted) || !isFormat(target)) {
            return RANGE;
        }
        return containers.add(format, wanted, target);
    }

    public int deep(int file) {
        if (!files.has(file)) {
            return RANGE;
        }
        return deepFormat(file, 0);
    }

    public int obsolete(int format, boolean on) {
        if (!isFormat(format)) {
            return RANGE;
        }
        migrations.outOfDate[format] = on;
        return 1;
    }

    public int migration(int format, int to) {
        if (!isFormat(format) || (to != NONE && !isFormat(to))) {
            return RANGE;
        }
        if (to != NONE && migrations.leads(to, format)) {
            return STATE;
        }
        migrations.next[format] = to;
        return 1;
    }

    public int becomes(int format) {
        if (!isFormat(format)) {
            return RANGE;
        }
        return migrations.endFrom(format);
    }

    public int keep() {
        for (int file = 0; file < files.size; file++) {
            kept[file] = formatOf(file, rows.size);
        }
        return rows.size;
    }

    public int changed(int i) {
        int before = 0;
        for (int file = 0; file < files.size; file++) {
            if (formatOf(file, rows.size) != kept[file]) {
                if (before == i) {
                    return file;
                }
                before++;
            }
        }
        return NONE;
    }

    public int count(int format, int firstRows) {
        boolean known = isFormat(format) || format == NONE || format == UNCLEAR;
        if (!known || firstRows < 0 || firstRows > rows.size) {
            return RANGE;
        }
        int many = 0;
        for (int file = 0; file < files.size; file++) {
            if (formatOf(file, firstRows) == format) {
                many++;
            }
        }
        return many;
    }

    public int pattern(int row, int k) throws ArrayIndexOutOfBoundsException {
        if (!rows.has(row)) {
            return NONE;
        }
        if (k < 0 || k >= rows.placeCounts[row]) {
            throw new ArrayIndexOutOfBoundsException("no such place in the pattern");
        }
        return rows.placeAt(row, k);
    }

    private static boolean isFormat(int format) {
        return format >= 0 && format < FORMATS;
    }

    private static int formatOfSet(int set) {
        return Integer.bitCount(set) > 1 ? UNCLEAR : formatInSet(set, 0);
    }

    private static int formatInSet(int set, int i) {
        int before = 0;
        for (int format = 0; format < FORMATS; format++) {
            if ((set & (1 << format)) != 0) {
                if (before == i) {
                    return format;
                }
                before++;
            }
        }
        return NONE;
    }

    private int formatOf(int file, int firstRows) {
        return formatOfSet(formatsOf(file, firstRows));
    }

    private int formatsOf(int file, int firstRows) {
        if (files.byteCounts[file] == 0) {
            return 1 << FORMAT_WITHOUT_BYTES;
        }
        int set = 0;
        int greatest = -1;
        for (int row = 0; row < firstRows; row++) {
            int rank = rows.ranks[row];
            if (rank >= greatest && fits(row, file)) {
                int others = rank == greatest ? set : 0;
                set = others | (1 << rows.formats[row]);
                greatest = rank;
            }
        }
        return set;
    }

    private boolean fits(int row, int file) {
        int bytes = files.byteCounts[file];
        int places = rows.placeCounts[row];
        int start = rows.startIn(row, bytes);
        if (start < 0 || start + places > bytes) {
            return false;
        }
        for (int k = 0; k < places; k++) {
            int wanted = rows.placeAt(row, k);
            if (wanted != ANY_BYTE && wanted != files.byteAt(file, start + k)) {
                return false;
            }
        }
        return true;
    }

    private int deepFormat(int file, int depth) {
        int format = formatOf(file, rows.size);
        if (!isFormat(format) || depth >= DEPTH_NOT_LOOKED_INTO) {
            return format;
        }
        int memberFormats = 0;
        for (int other = 0; other < files.size; other++) {
            if (files.parents[other] == file) {
                int inside = deepFormat(other, depth + 1);
                if (isFormat(inside)) {
                    memberFormats |= 1 << inside;
                }
            }
        }
        return containers.targetOf(format, memberFormats);
    }

    /** The signs told so far, and what the latest reading of them came to. */
    private static final class RowText {
        private static final int NO_SIGN = -1;
        private static final int BLANK = 32;

        private final int[] signs = new int[MOST_SIGNS];
        private int length = 0;
        // Where the reading stands: after a failed one, the place that is WRONG.
        private int at = 0;

        private int format = 0;
        private int rank = 0;
        private boolean fromEnd = false;
        private int offset = 0;
        private final int[] places = new int[MOST_PLACES];
        private int placeCount = 0;

        void add(int c) {
            if (length < MOST_SIGNS) {
                signs[length] = c;
                length++;
            }
        }

        void forget() {
            length = 0;
        }

        boolean read() {
            at = 0;
            return readFormat() && readBlank()
                && readRank() && readBlank()
                && readOffset() && readBlank()
                && readPlaces();
        }

        private boolean readFormat() {
            format = readNumber(2, FORMATS);
            return format != NONE;
        }

        private boolean readRank() {
            rank = readNumber(1, 10);
            return rank != NONE;
        }

        private boolean readOffset() {
            int c = signAt(at);
            if (c != '@' && c != '-') {
                return false;
            }
            fromEnd = c == '-';
            at++;
            offset = readNumber(3, 1000);
            return offset != NONE;
        }

        private boolean readBlank() {
            if (signAt(at) != BLANK) {
                return false;
            }
            at++;
            return true;
        }

        /** A number below a limit, or NONE: then the reading still stands at its first sign. */
        private int readNumber(int mostDigits, int limit) {
            int value = 0;
            int end = at;
            while (end < length && isDigit(signAt(end))) {
                value = value * 10 + signAt(end) - '0';
                end++;
            }
            int digits = end - at;
            if (digits == 0 || digits > mostDigits || value >= limit) {
                return NONE;
            }
            at = end;
            return value;
        }

        private boolean readPlaces() {
            placeCount = 0;
            do {
                int place = signAt(at) == '?' ? readAnyByte() : readByte();
                if (place == NONE) {
                    return false;
                }
                places[placeCount] = place;
                placeCount++;
            } while (placeCount < MOST_PLACES && at < length);
            return at == length;
        }

        private int readAnyByte() {
            at++;
            if (signAt(at) != '?') {
                return NONE;
            }
            at++;
            return ANY_BYTE;
        }

        private int readByte() {
            int high = hexValue(signAt(at));
            if (high == NONE) {
                return NONE;
            }
            at++;
            int low = hexValue(signAt(at));
            if (low == NONE) {
                return NONE;
            }
            at++;
            return high * 16 + low;
        }

        private int signAt(int place) {
            return place >= 0 && place < length ? signs[place] : NO_SIGN;
        }

        private static boolean isDigit(int c) {
            return c >= '0' && c <= '9';
        }

        private static int hexValue(int c) {
            if (isDigit(c)) {
                return c - '0';
            }
            return c >= 'a' && c <= 'f' ? c - 'a' + 10 : NONE;
        }
    }

    private static final class Rows {
        private int size = 0;
        private final int[] formats = new int[MOST_ROWS];
        private final int[] ranks = new int[MOST_ROWS];
        private final boolean[] fromEnd = new boolean[MOST_ROWS];
        private final int[] offsets = new int[MOST_ROWS];
        private final int[] placeCounts = new int[MOST_ROWS];
        private final int[] places = new int[MOST_ROWS * MOST_PLACES];

        boolean has(int row) {
            return row >= 0 && row < size;
        }

        int add(RowText text) {
            if (size >= MOST_ROWS) {
                return FULL;
            }
            formats[size] = text.format;
            ranks[size] = text.rank;
            fromEnd[size] = text.fromEnd;
            offsets[size] = text.offset;
            placeCounts[size] = text.placeCount;
            for (int k = 0; k < text.placeCount; k++) {
                places[size * MOST_PLACES + k] = text.places[k];
            }
            size++;
            return size - 1;
        }

        int startIn(int row, int bytes) {
            return fromEnd[row] ? bytes - offsets[row] : offsets[row];
        }

        int placeAt(int row, int k) {
            return places[row * MOST_PLACES + k];
        }
    }

    /** Files with their bytes. No answer tells the members' order, so only whose each is is held. */
    private static final class Files {
        private int size = 0;
        private final int[] byteCounts = new int[MOST_FILES];
        private final int[] bytes = new int[MOST_FILES * MOST_BYTES];
        private final int[] memberCounts = new int[MOST_FILES];
        private final int[] parents = new int[MOST_FILES];

        boolean has(int file) {
            return file >= 0 && file < size;
        }

        int add() {
            if (size >= MOST_FILES) {
                return FULL;
            }
            parents[size] = NONE;
            size++;
            return size - 1;
        }

        int addByte(int file, int b) {
            int many = byteCounts[file];
            if (many >= MOST_BYTES) {
                return FULL;
            }
            bytes[file * MOST_BYTES + many] = b;
            byteCounts[file] = many + 1;
            return many + 1;
        }

        int byteAt(int file, int k) {
            return bytes[file * MOST_BYTES + k];
        }

        boolean isMember(int file) {
            return parents[file] != NONE;
        }

        /** Whether a file is another one or among its members at any depth. */
        boolean isInside(int file, int other) {
            int above = file;
            for (int step = 0; step < MOST_FILES && above != NONE; step++) {
                if (above == other) {
                    return true;
                }
                above = parents[above];
            }
            return false;
        }

        int addMember(int file, int of) {
            if (memberCounts[of] >= MOST_MEMBERS) {
                return FULL;
            }
            parents[file] = of;
            memberCounts[of]++;
            return memberCounts[of];
        }
    }

    private static final class Containers {
        private int size = 0;
        private final int[] formats = new int[MOST_CONTAINERS];
        private final int[] wanted = new int[MOST_CONTAINERS];
        private final int[] targets = new int[MOST_CONTAINERS];

        int add(int format, int wantedFormat, int target) {
            if (size >= MOST_CONTAINERS) {
                return FULL;
            }
            formats[size] = format;
            wanted[size] = wantedFormat;
            targets[size] = target;
            size++;
            return size - 1;
        }

        /** The target of the latest container row that holds, or the format itself. */
        int targetOf(int format, int memberFormats) {
            for (int i = size - 1; i >= 0; i--) {
                if (formats[i] == format && (memberFormats & (1 << wanted[i])) != 0) {
                    return targets[i];
                }
            }
            return format;
        }
    }

    private static final class Migrations {
        private final boolean[] outOfDate = new boolean[FORMATS];
        private final int[] next = new int[FORMATS];

        Migrations() {
            Arrays.fill(next, NONE);
        }

        /** Whether migrations lead from a format to another one, or both are the same. */
        boolean leads(int from, int to) {
            int format = from;
            for (int step = 0; step < FORMATS && format != NONE; step++) {
                if (format == to) {
                    return true;
                }
                format = next[format];
            }
            return false;
        }

        int endFrom(int format) {
            int end = format;
            for (int step = 0; step < FORMATS && outOfDate[end] && next[end] != NONE; step++) {
                end = next[end];
            }
            return end == format ? NONE : end;
        }
    }
}
