import java.util.Random;

/** Runs of 512 calls with odd arguments: nothing is thrown but what the document names, where it names it. */
public final class AnyCallsTest {
    private static final Check CHECK = new Check();
    private static final int[] EDGES = {
        Integer.MIN_VALUE, -256, -10, -5, -4, -3, -2, -1, 0, 1, 8, 12, 19, 20, 29, 30, 39, 40, 59, 60,
        255, 256, Integer.MAX_VALUE,
    };

    public static void main(String[] args) {
        int thrown = 0;
        for (int seed = 0; seed < 2000; seed++) {
            thrown += run(new Random(seed));
        }
        CHECK.due("calls that threw what no document names", thrown, 0);
        CHECK.end();
    }

    private static int run(Random random) {
        FormatRows x = new FormatRows();
        int thrown = 0;
        for (int call = 0; call < 512; call++) {
            int which = random.nextInt(20);
            try {
                call += any(x, which, random);
            } catch (ArrayIndexOutOfBoundsException e) {
                // The machine's own text tells an index that was not looked at before its use.
                boolean named = (which == 6 || which == 16) && !e.getMessage().startsWith("Index ");
                thrown += named ? 0 : 1;
            } catch (RuntimeException e) {
                thrown++;
            }
        }
        return thrown;
    }

    private static int number(Random random) {
        return random.nextInt(4) == 0 ? EDGES[random.nextInt(EDGES.length)] : random.nextInt(6);
    }

    /** Makes a call, or the calls of a whole row: how many more than one. */
    private static int any(FormatRows x, int which, Random random) {
        int a = number(random);
        int b = number(random);
        switch (which) {
            case 0: x.sign(random.nextInt()); return 0;
            case 1: x.row(); return 0;
            case 2: x.octet(a, b); return 0;
            case 3: x.file(); return 0;
            case 4: x.member(a, b); return 0;
            case 5: x.identify(a); return 0;
            case 6: x.found(a); return 0;
            case 7: x.meets(a, b); return 0;
            case 8: x.container(a, b, number(random)); return 0;
            case 9: x.deep(a); return 0;
            case 10: x.obsolete(a, random.nextBoolean()); return 0;
            case 11: x.migration(a, b); return 0;
            case 12: x.becomes(a); return 0;
            case 13: x.keep(); return 0;
            case 14: x.changed(a); return 0;
            case 15: x.count(a, b); return 0;
            case 16: x.pattern(a, b); return 0;
            default: return tellRow(x, random);
        }
    }

    private static int tellRow(FormatRows x, Random random) {
        StringBuilder text = new StringBuilder();
        text.append(random.nextInt(31)).append(' ').append(random.nextInt(3));
        text.append(random.nextBoolean() ? " @" : " -").append(random.nextInt(5)).append(' ');
        int places = 1 + random.nextInt(random.nextInt(5) == 0 ? 13 : 2);
        for (int k = 0; k < places; k++) {
            text.append(random.nextBoolean() ? "??" : "0" + random.nextInt(6));
        }
        Check.row(x, text.toString());
        return text.length();
    }
}
