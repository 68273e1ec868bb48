import java.util.Random;

/**
 * Runs of 512 calls, odd and refused ones among them: each answers as Model does, and nothing is
 * thrown but what the document names, where it names it.
 */
public final class ModelTest {
    private static final Check CHECK = new Check();
    private static final int[] ODD = {
        Integer.MIN_VALUE, -256, -10, -6, -5, -4, -3, -2, -1, 0, 1, 8, 12, 19, 20, 29, 30, 39, 40, 59, 60,
        255, 256, Integer.MAX_VALUE,
    };
    // One letter a call, as often as a run of its kind makes it: R is a row's text and row().
    private static final String[] KINDS = {
        "sroofmidcDhhgbbkxncpjRRR",
        "ffffmmmmmmmmoiiddc",
        "foooooooooooooooooooooooooooooooohR",
        "ccccmmmmffffoodddddR",
        "DDDDgggggggbbbb",
        "RRRooooffikxxxnnnnpjj",
    };
    private static final int RUNS_OF_A_KIND = 200;

    private final FormatRows x = new FormatRows();
    private final Model model = new Model();
    private final Random random;
    private String call = "";
    private int got = 0;
    private int want = 0;

    private ModelTest(long seed) {
        random = new Random(seed);
    }

    public static void main(String[] args) {
        for (int kind = 0; kind < KINDS.length; kind++) {
            for (int seed = 0; seed < RUNS_OF_A_KIND; seed++) {
                new ModelTest(1000 * kind + seed).run("kind " + kind + ", run " + seed, KINDS[kind]);
            }
        }
        CHECK.end();
    }

    /** A run ends at its first wrong answer: those behind it tell no more. */
    private void run(String name, String kind) {
        for (int calls = 1; calls <= 512 && got == want; calls++) {
            char letter = kind.charAt(random.nextInt(kind.length()));
            if (letter == 'R') {
                calls += tell(random.nextInt(4) == 0 ? spoilt(rowText()) : rowText());
                letter = 'r';
            }
            make(letter);
            CHECK.due(name + ", call " + calls + ": " + call, got, want);
        }
    }

    private int number(int below) {
        return random.nextInt(8) == 0 ? ODD[random.nextInt(ODD.length)] : random.nextInt(below);
    }

    private void make(char letter) {
        try {
            if ("sromfdihjp".indexOf(letter) >= 0) {
                makeOfRowsAndFiles(letter);
            } else {
                makeOfFormats(letter);
            }
        } catch (RuntimeException e) {
            boolean named = letter == 'j' || letter == 'p';
            // The machine's own text tells an index that was not looked at before its use.
            boolean own = e instanceof ArrayIndexOutOfBoundsException && !e.getMessage().startsWith("Index ");
            got = named && own ? Check.THROWN : Check.THROWN + 1;
        }
    }

    private void answers(String what, int due) {
        call = what;
        want = due;
    }

    private void makeOfRowsAndFiles(char letter) {
        int a = number(6);
        int b = number(letter == 'p' ? 3 : 6);
        switch (letter) {
            case 's': answers("sign", 0); got = tell("" + (char) random.nextInt(65536)) - 1; break;
            case 'r': answers("row()", model.row()); got = x.row(); break;
            case 'o': answers("octet(" + a + ", " + b + ")", model.octet(a, b)); got = x.octet(a, b); break;
            case 'm': member(number(40), number(5)); break;
            case 'f': answers("file()", model.file()); got = x.file(); break;
            case 'd': answers("deep(" + a + ")", model.deep(a)); got = x.deep(a); break;
            case 'i': answers("identify(" + a + ")", model.identify(a)); got = x.identify(a); break;
            case 'h': answers("meets(" + a + ", " + b + ")", model.meets(a, b)); got = x.meets(a, b); break;
            case 'j': answers("found(" + b + ")", model.found(b)); got = x.found(b); break;
            default: answers("pattern(" + a + ", " + b + ")", model.pattern(a, b)); got = x.pattern(a, b); break;
        }
    }

    private void makeOfFormats(char letter) {
        int a = number(4);
        int b = number(4);
        boolean on = random.nextInt(3) > 0;
        switch (letter) {
            case 'c': container(a, b, number(4)); break;
            case 'D': answers("obsolete(" + a + ", " + on + ")", model.obsolete(a, on)); got = x.obsolete(a, on); break;
            case 'g': answers("migration(" + a + ", " + b + ")", model.migration(a, b)); got = x.migration(a, b); break;
            case 'b': answers("becomes(" + a + ")", model.becomes(a)); got = x.becomes(a); break;
            case 'k': answers("keep()", model.keep()); got = x.keep(); break;
            case 'x': answers("changed(" + a + ")", model.changed(a)); got = x.changed(a); break;
            default: answers("count(" + a + ", " + b + ")", model.count(a, b)); got = x.count(a, b); break;
        }
    }

    private void member(int file, int of) {
        answers("member(" + file + ", " + of + ")", model.member(file, of));
        got = x.member(file, of);
    }

    private void container(int format, int wanted, int target) {
        answers("container(" + format + ", " + wanted + ", " + target + ")", model.container(format, wanted, target));
        got = x.container(format, wanted, target);
    }

    /** Tells both a text: how many signs it has. */
    private int tell(String text) {
        for (char c : text.toCharArray()) {
            int sign = c + 256 * (random.nextInt(3) - 1);
            model.sign(sign);
            x.sign(sign);
        }
        return text.length();
    }

    private String rowText() {
        StringBuilder text = new StringBuilder();
        text.append(random.nextInt(4)).append(' ').append(random.nextInt(3));
        text.append(random.nextBoolean() ? " @" : " -").append(random.nextInt(4)).append(' ');
        int places = 1 + random.nextInt(random.nextInt(9) == 0 ? 13 : 2);
        for (int k = 0; k < places; k++) {
            text.append(random.nextInt(3) == 0 ? "??" : "0" + random.nextInt(6));
        }
        return text.toString();
    }

    /** The text with one of its signs gone, another one, or told twice. */
    private String spoilt(String text) {
        int place = random.nextInt(text.length());
        String[] instead = {"", "" + (char) random.nextInt(256), text.substring(place, place + 1).repeat(2)};
        return text.substring(0, place) + instead[random.nextInt(3)] + text.substring(place + 1);
    }
}
