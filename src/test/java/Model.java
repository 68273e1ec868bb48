import java.util.ArrayList;
import java.util.HashMap;
import java.util.HashSet;
import java.util.List;
import java.util.Map;
import java.util.Set;
import java.util.TreeSet;
import java.util.regex.Matcher;
import java.util.regex.Pattern;

/** The document once more, in the plainest way and with the Java library, to compare FormatRows with. */
final class Model {
    private static final Pattern ROW =
        Pattern.compile("([0-9]|[0-2][0-9]) ([0-9]) ([@-])([0-9]{1,3}) ((?:[0-9a-f]{2}|\\?\\?){1,12})");

    private String told = "";
    private final List<Matcher> rows = new ArrayList<>();
    private final List<List<Integer>> files = new ArrayList<>();
    private final List<List<Integer>> members = new ArrayList<>();
    private final List<int[]> containers = new ArrayList<>();
    private final Set<Integer> outOfDate = new HashSet<>();
    private final Map<Integer, Integer> migrations = new HashMap<>();
    private final Map<Integer, Integer> kept = new HashMap<>();
    private List<Integer> found = List.of();

    void sign(int c) {
        if (told.length() < 60) {
            told += (char) Math.floorMod(c, 256);
        }
    }

    int row() {
        String text = told;
        told = "";
        int wrong = wrongPlace(text);
        if (wrong >= 0) {
            return -10 - wrong;
        }
        if (rows.size() == 60) {
            return FormatRows.FULL;
        }
        Matcher row = ROW.matcher(text);
        row.matches();
        rows.add(row);
        return rows.size() - 1;
    }

    /** The place where a text is WRONG, or -1. */
    static int wrongPlace(String text) {
        for (int place = 0; place < text.length(); place++) {
            Matcher start = ROW.matcher(text.substring(0, place + 1));
            if (!start.matches() && !start.hitEnd()) {
                return firstOfNumber(text, place);
            }
        }
        return ROW.matcher(text).matches() ? -1 : text.length();
    }

    /** A number too great or too long is WRONG at its first sign; a pattern has no numbers. */
    private static int firstOfNumber(String text, int place) {
        boolean inPattern = text.substring(0, place).replaceAll("[^ ]", "").length() == 3;
        int first = place;
        while (!inPattern && isDigit(text, place) && first > 0 && isDigit(text, first - 1)) {
            first--;
        }
        return first;
    }

    private static boolean isDigit(String text, int place) {
        return text.charAt(place) >= '0' && text.charAt(place) <= '9';
    }

    int octet(int file, int b) {
        if (!isFile(file)) {
            return FormatRows.NONE;
        }
        if (files.get(file).size() == 60) {
            return FormatRows.FULL;
        }
        files.get(file).add(Math.floorMod(b, 256));
        return files.get(file).size();
    }

    int file() {
        if (files.size() == 40) {
            return FormatRows.FULL;
        }
        files.add(new ArrayList<>());
        members.add(new ArrayList<>());
        return files.size() - 1;
    }

    int member(int file, int of) {
        if (!isFile(file) || !isFile(of)) {
            return FormatRows.NONE;
        }
        boolean already = members.stream().anyMatch(m -> m.contains(file));
        if (already || file == of || allInside(file).contains(of)) {
            return FormatRows.STATE;
        }
        if (members.get(of).size() == 8) {
            return FormatRows.FULL;
        }
        members.get(of).add(file);
        return members.get(of).size();
    }

    private Set<Integer> allInside(int file) {
        Set<Integer> all = new HashSet<>();
        for (int member : members.get(file)) {
            all.add(member);
            all.addAll(allInside(member));
        }
        return all;
    }

    int identify(int file) {
        if (!isFile(file)) {
            return FormatRows.RANGE;
        }
        found = formats(file, rows.size());
        return format(file, rows.size());
    }

    int found(int i) {
        return i >= 0 && i < found.size() ? found.get(i) : Check.THROWN;
    }

    int meets(int row, int file) {
        return !isRow(row) || !isFile(file) ? FormatRows.NONE : isMet(row, file) ? 1 : 0;
    }

    int container(int format, int wanted, int target) {
        if (!isFormat(format) || !isFormat(wanted) || !isFormat(target)) {
            return FormatRows.RANGE;
        }
        if (containers.size() == 20) {
            return FormatRows.FULL;
        }
        containers.add(new int[] {format, wanted, target});
        return containers.size() - 1;
    }

    int deep(int file) {
        return isFile(file) ? deepFormat(file, 0) : FormatRows.RANGE;
    }

    private int deepFormat(int file, int depth) {
        int format = format(file, rows.size());
        if (depth == 3) {
            return format;
        }
        Set<Integer> inside = new HashSet<>();
        for (int member : members.get(file)) {
            inside.add(deepFormat(member, depth + 1));
        }
        int deep = format;
        for (int[] row : containers) {
            deep = row[0] == format && inside.contains(row[1]) ? row[2] : deep;
        }
        return deep;
    }

    int obsolete(int format, boolean on) {
        if (!isFormat(format)) {
            return FormatRows.RANGE;
        }
        if (on) {
            outOfDate.add(format);
        } else {
            outOfDate.remove(format);
        }
        return 1;
    }

    int migration(int format, int to) {
        if (!isFormat(format) || !isFormat(to) && to != -1) {
            return FormatRows.RANGE;
        }
        for (Integer at = to; at != null; at = migrations.get(at)) {
            if (at == format) {
                return FormatRows.STATE;
            }
        }
        migrations.remove(format);
        if (to != -1) {
            migrations.put(format, to);
        }
        return 1;
    }

    int becomes(int format) {
        if (!isFormat(format)) {
            return FormatRows.RANGE;
        }
        if (!outOfDate.contains(format) || !migrations.containsKey(format)) {
            return FormatRows.NONE;
        }
        int further = becomes(migrations.get(format));
        return further == FormatRows.NONE ? migrations.get(format) : further;
    }

    int keep() {
        for (int file = 0; file < files.size(); file++) {
            kept.put(file, format(file, rows.size()));
        }
        return rows.size();
    }

    int changed(int i) {
        List<Integer> all = new ArrayList<>();
        for (int file = 0; file < files.size(); file++) {
            if (format(file, rows.size()) != kept.getOrDefault(file, FormatRows.NONE)) {
                all.add(file);
            }
        }
        return i >= 0 && i < all.size() ? all.get(i) : FormatRows.NONE;
    }

    int count(int format, int many) {
        boolean known = isFormat(format) || format == FormatRows.NONE || format == FormatRows.UNCLEAR;
        if (!known || many < 0 || many > rows.size()) {
            return FormatRows.RANGE;
        }
        int count = 0;
        for (int file = 0; file < files.size(); file++) {
            count += format(file, many) == format ? 1 : 0;
        }
        return count;
    }

    int pattern(int row, int k) {
        if (!isRow(row)) {
            return FormatRows.NONE;
        }
        List<Integer> places = places(row);
        return k >= 0 && k < places.size() ? places.get(k) : Check.THROWN;
    }

    private static boolean isFormat(int format) {
        return format >= 0 && format <= 29;
    }

    private boolean isFile(int file) {
        return file >= 0 && file < files.size();
    }

    private boolean isRow(int row) {
        return row >= 0 && row < rows.size();
    }

    private List<Integer> places(int row) {
        String signs = rows.get(row).group(5);
        List<Integer> places = new ArrayList<>();
        for (int at = 0; at < signs.length(); at += 2) {
            String two = signs.substring(at, at + 2);
            places.add(two.equals("??") ? 256 : Integer.parseInt(two, 16));
        }
        return places;
    }

    private boolean isMet(int row, int file) {
        List<Integer> bytes = files.get(file);
        List<Integer> places = places(row);
        int offset = Integer.parseInt(rows.get(row).group(4));
        int from = rows.get(row).group(3).equals("@") ? offset : bytes.size() - offset;
        for (int k = 0; k < places.size(); k++) {
            int at = from + k;
            if (at < 0 || at >= bytes.size()) {
                return false;
            }
            if (places.get(k) != 256 && !places.get(k).equals(bytes.get(at))) {
                return false;
            }
        }
        return true;
    }

    private List<Integer> formats(int file, int many) {
        if (files.get(file).isEmpty()) {
            return List.of(0);
        }
        for (int rank = 9; rank >= 0; rank--) {
            Set<Integer> formats = new TreeSet<>();
            for (int row = 0; row < many; row++) {
                if (Integer.parseInt(rows.get(row).group(2)) == rank && isMet(row, file)) {
                    formats.add(Integer.parseInt(rows.get(row).group(1)));
                }
            }
            if (!formats.isEmpty()) {
                return new ArrayList<>(formats);
            }
        }
        return List.of();
    }

    private int format(int file, int many) {
        List<Integer> formats = formats(file, many);
        return formats.isEmpty() ? FormatRows.NONE : formats.size() > 1 ? FormatRows.UNCLEAR : formats.get(0);
    }
}
