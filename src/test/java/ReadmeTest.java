import java.io.IOException;
import java.nio.file.Files;
import java.nio.file.Path;
import java.util.regex.Matcher;
import java.util.regex.Pattern;

/** The calls of README.md's example answer what its comments say. */
public final class ReadmeTest {
    private static final Check CHECK = new Check();
    private static final Pattern TEXT = Pattern.compile("for \\(char c : \"(.*)\"\\.toCharArray\\(\\)\\) \\{");
    private static final Pattern CALL = Pattern.compile("x\\.(\\w+)\\(([^)]*)\\); +// (\\S+?)(:.*)?");

    public static void main(String[] args) throws IOException {
        FormatRows x = new FormatRows();
        int calls = 0;
        for (String line : example().split("\n")) {
            Matcher text = TEXT.matcher(line);
            Matcher call = CALL.matcher(line);
            if (text.matches()) {
                Check.tell(x, text.group(1));
            } else if (call.matches()) {
                calls++;
                CHECK.due(line, answer(x, call.group(1), numbers(call.group(2))), number(call.group(3)));
            } else {
                CHECK.due("not a line that this test knows: " + line, isFrame(line) ? 1 : 0, 1);
            }
        }
        CHECK.due("the example has calls", calls > 0 ? 1 : 0, 1);
        CHECK.end();
    }

    private static String example() throws IOException {
        String readme = Files.readString(Path.of("README.md"));
        int start = readme.indexOf("```java\n") + "```java\n".length();
        return readme.substring(start, readme.indexOf("```", start));
    }

    private static boolean isFrame(String line) {
        return line.isEmpty() || line.equals("}") || line.startsWith("    x.sign(c);")
            || line.equals("FormatRows x = new FormatRows();");
    }

    private static int[] numbers(String list) {
        String[] words = list.isEmpty() ? new String[0] : list.split(", ");
        int[] numbers = new int[words.length];
        for (int i = 0; i < words.length; i++) {
            numbers[i] = number(words[i]);
        }
        return numbers;
    }

    private static int number(String word) {
        return switch (word) {
            case "true" -> 1;
            case "FormatRows.UNCLEAR" -> FormatRows.UNCLEAR;
            default -> Integer.parseInt(word);
        };
    }

    private static int answer(FormatRows x, String name, int[] n) {
        return switch (name) {
            case "row" -> x.row();
            case "file" -> x.file();
            case "octet" -> x.octet(n[0], n[1]);
            case "member" -> x.member(n[0], n[1]);
            case "identify" -> x.identify(n[0]);
            case "found" -> x.found(n[0]);
            case "container" -> x.container(n[0], n[1], n[2]);
            case "deep" -> x.deep(n[0]);
            case "obsolete" -> x.obsolete(n[0], n[1] == 1);
            case "migration" -> x.migration(n[0], n[1]);
            case "becomes" -> x.becomes(n[0]);
            case "keep" -> x.keep();
            case "changed" -> x.changed(n[0]);
            case "count" -> x.count(n[0], n[1]);
            default -> throw new IllegalArgumentException(name);
        };
    }
}
