import java.lang.reflect.Constructor;
import java.lang.reflect.Field;
import java.lang.reflect.Method;
import java.lang.reflect.Modifier;
import java.util.Arrays;
import java.util.TreeSet;

/** The public face, and promise 1: a new object. */
public final class NewObjectTest {
    private static final Check CHECK = new Check();

    public static void main(String[] args) {
        constants();
        face();
        namedExceptions();
        nothingIsThere();
        objectsShareNothing();
        CHECK.end();
    }

    private static void constants() {
        CHECK.due("NONE", FormatRows.NONE, -1);
        CHECK.due("RANGE", FormatRows.RANGE, -2);
        CHECK.due("STATE", FormatRows.STATE, -3);
        CHECK.due("FULL", FormatRows.FULL, -4);
        CHECK.due("UNCLEAR", FormatRows.UNCLEAR, -5);
    }

    private static void face() {
        TreeSet<String> seen = new TreeSet<>();
        for (Method m : FormatRows.class.getDeclaredMethods()) {
            if (!Modifier.isPrivate(m.getModifiers())) {
                seen.add(m.getReturnType() + " " + m.getName() + Arrays.toString(m.getParameterTypes()));
            }
        }
        for (Field f : FormatRows.class.getDeclaredFields()) {
            if (!Modifier.isPrivate(f.getModifiers())) {
                seen.add(f.getName());
            }
        }
        for (Constructor<?> c : FormatRows.class.getDeclaredConstructors()) {
            seen.add("new" + Arrays.toString(c.getParameterTypes()));
        }
        TreeSet<String> want = new TreeSet<>(Arrays.asList(
            "NONE", "RANGE", "STATE", "FULL", "UNCLEAR", "new[]",
            "void sign[int]", "int row[]", "int octet[int, int]", "int file[]",
            "int member[int, int]", "int identify[int]", "int found[int]",
            "int meets[int, int]", "int container[int, int, int]", "int deep[int]",
            "int obsolete[int, boolean]", "int migration[int, int]", "int becomes[int]",
            "int keep[]", "int changed[int]", "int count[int, int]", "int pattern[int, int]"));
        CHECK.due("the face " + seen, seen.equals(want) ? 1 : 0, 1);
        int modifiers = FormatRows.class.getModifiers();
        CHECK.due("public final", Modifier.isPublic(modifiers) && Modifier.isFinal(modifiers) ? 1 : 0, 1);
    }

    private static void namedExceptions() {
        for (Method m : FormatRows.class.getDeclaredMethods()) {
            if (Modifier.isPublic(m.getModifiers())) {
                boolean named = m.getName().equals("found") || m.getName().equals("pattern");
                String want = named ? "[" + ArrayIndexOutOfBoundsException.class + "]" : "[]";
                String seen = Arrays.toString(m.getExceptionTypes());
                CHECK.due(m.getName() + " names " + seen, seen.equals(want) ? 1 : 0, 1);
            }
        }
    }

    private static void nothingIsThere() {
        FormatRows x = new FormatRows();
        CHECK.due("new: pattern(0, 0)", Check.pattern(x, 0, 0), FormatRows.NONE);
        CHECK.due("new: meets(0, 0)", x.meets(0, 0), FormatRows.NONE);
        CHECK.due("new: identify(0)", x.identify(0), FormatRows.RANGE);
        CHECK.due("new: deep(0)", x.deep(0), FormatRows.RANGE);
        CHECK.due("new: octet(0, 1)", x.octet(0, 1), FormatRows.NONE);
        CHECK.due("new: found(0)", Check.found(x, 0), Check.THROWN);
        CHECK.due("new: changed(0)", x.changed(0), FormatRows.NONE);
        CHECK.due("new: keep()", x.keep(), 0);
        CHECK.due("new: count(0, 0)", x.count(0, 0), 0);
        CHECK.due("new: count(0, 1)", x.count(0, 1), FormatRows.RANGE);
        CHECK.due("new: row()", x.row(), -10);
        for (int f = 0; f < 30; f++) {
            CHECK.due("new: becomes(" + f + ")", x.becomes(f), FormatRows.NONE);
            x.migration(f, f == 29 ? -1 : 29);
            CHECK.due("not out of date: becomes(" + f + ")", x.becomes(f), FormatRows.NONE);
        }
        CHECK.due("new: file()", x.file(), 0);
        CHECK.due("new: row", Check.row(x, "0 0 @0 ??"), 0);
        CHECK.due("new: container(0, 0, 0)", x.container(0, 0, 0), 0);
    }

    private static void objectsShareNothing() {
        FormatRows a = new FormatRows();
        FormatRows b = new FormatRows();
        a.sign('1');
        Check.row(a, " 0 @0 ??");
        Check.file(a, 1);
        a.container(1, 1, 1);
        CHECK.due("another object's text: row()", b.row(), -10);
        CHECK.due("another object's file: identify(0)", b.identify(0), FormatRows.RANGE);
        CHECK.due("another object's row: pattern(0, 0)", Check.pattern(b, 0, 0), FormatRows.NONE);
        CHECK.due("another object's container: container(1, 1, 1)", b.container(1, 1, 1), 0);
    }
}
