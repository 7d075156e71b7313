import java.lang.management.ManagementFactory;
import java.lang.reflect.Constructor;
import java.lang.reflect.Field;
import java.lang.reflect.Method;
import java.lang.reflect.Modifier;
import java.nio.file.Files;
import java.nio.file.Path;
import java.util.Set;
import java.util.TreeSet;
import java.util.regex.Matcher;
import java.util.regex.Pattern;

/** The face of the document, the rules of LANGUAGE.md that can be looked at, and the room that calls take. */
public final class LanguageTest {
    private static final String FACE = "cloth(int,int,int)int thing(int)int touch(int,int,int)int colour(int,int)int "
            + "type(long,int)int clear()int read()int shade(int,int)int sleep()int undo()int soRed(int,int)int "
            + "rest(int)int moves(int,int,int,int,int)int bound(int,int,int)int chest(int)int "
            + "morning(int,int,int)int surely(int,int)int borrower(int,int,int,int)int refuse()int lent(int)int "
            + "colours()int least(int,int,int,int)int sign(int)int limb(int,int)int image(int)int from(int)int "
            + "status(int)int count(int)int digest()long";
    private static final Check CHECK = new Check("LanguageTest");

    public static void main(String[] args) throws Exception {
        face();
        constants();
        source(Files.readString(Path.of(args[0])));
        room();
        CHECK.end();
    }

    private static void face() {
        Class<?> c = LentShades.class;
        CHECK.due("public and final", c.getModifiers() & (Modifier.PUBLIC | Modifier.FINAL),
                Modifier.PUBLIC | Modifier.FINAL);
        Set<String> open = new TreeSet<>();
        Set<String> names = new TreeSet<>();
        for (Method m : c.getDeclaredMethods()) {
            if (!Modifier.isPrivate(m.getModifiers())) {
                open.add(told(m));
                names.add(m.getName());
            }
        }
        CHECK.due("methods are " + open, open.equals(new TreeSet<>(Set.of(FACE.split(" ")))) ? 1 : 0, 1);
        CHECK.due("constructors", c.getDeclaredConstructors().length, 1);
        for (Constructor<?> k : c.getDeclaredConstructors()) {
            CHECK.due("the constructor", Modifier.isPublic(k.getModifiers()) && k.getParameterCount() == 0 ? 1 : 0, 1);
        }
        for (Class<?> inside : c.getDeclaredClasses()) {
            int m = inside.getModifiers();
            CHECK.due(inside + " is static", Modifier.isStatic(m) && !Modifier.isPublic(m) ? 1 : 0, 1);
            for (Method method : inside.getDeclaredMethods()) {
                CHECK.due(method + " bears a public one's name", names.contains(method.getName()) ? 1 : 0, 0);
                CHECK.due(method + " takes too much", method.getParameterCount() > 7 ? 1 : 0, 0);
            }
        }
        CHECK.due("classes", c.getDeclaredClasses().length < 12 ? 1 : 0, 1);
    }

    private static String told(Method m) {
        StringBuilder b = new StringBuilder(m.getName()).append('(');
        for (Class<?> p : m.getParameterTypes()) {
            b.append(b.charAt(b.length() - 1) == '(' ? "" : ",").append(p);
        }
        return b.append(')').append(m.getReturnType()).toString();
    }

    private static void constants() throws Exception {
        Set<String> open = new TreeSet<>();
        for (Field f : LentShades.class.getDeclaredFields()) {
            if (!Modifier.isPrivate(f.getModifiers())) {
                open.add(f.getName() + "=" + f.getInt(null));
            }
        }
        CHECK.due("constants are " + open,
                open.equals(new TreeSet<>(Set.of("NONE=-1", "BAD=-2", "NO=-3", "FULL=-4"))) ? 1 : 0, 1);
    }

    private static void source(String text) {
        String code = text.replaceAll("(?s)/\\*.*?\\*/", " ").replaceAll("//[^\\n]*", " ");
        String[] never = {"\\bthrow\\b", "\\bthrows\\b", "\\btry\\b", "\\bcatch\\b", "\\bsynchronized\\b",
            "\\bassert\\b", "->", "::", "\\bimport\\b", "\\bpackage\\b", "static\\s*\\{", "@", "\\bvar\\b",
            "\\bException\\b", "\\bError\\b", "Exact\\b", "\\bvalues\\(", "\\bprotected\\b", "[^\\x00-\\x7f]"};
        for (String n : never) {
            Matcher m = Pattern.compile(n).matcher(code);
            CHECK.due("a " + n + " in the source", m.find() ? 1 : 0, 0);
        }
        // What calls make is counted in one room: rows are made in constructors, as fields.
        Matcher made = Pattern.compile("(?m)^(.*)\\bnew\\b").matcher(code);
        while (made.find()) {
            String line = made.group(1);
            boolean field = line.contains("final");
            boolean inConstructor = line.contains("images[i] =") || line.contains("past[k] =");
            CHECK.due("made outside a constructor: " + line.trim(), field || inConstructor ? 1 : 0, 1);
        }
    }

    /** 512 dear calls leave nothing behind them; the object itself stays far below the room. */
    private static void room() {
        com.sun.management.ThreadMXBean threads =
                (com.sun.management.ThreadMXBean) ManagementFactory.getThreadMXBean();
        long start = threads.getCurrentThreadAllocatedBytes();
        long looked = threads.getCurrentThreadAllocatedBytes() - start;
        LentShades x = new LentShades();
        long made = threads.getCurrentThreadAllocatedBytes() - start - 2 * looked;
        CHECK.due("the object has " + made + " bytes", made < 100000 ? 1 : 0, 1);
        furnish(x);
        dearCalls(x);
        start = threads.getCurrentThreadAllocatedBytes();
        dearCalls(x);
        long left = threads.getCurrentThreadAllocatedBytes() - start - looked;
        CHECK.due("calls made " + left + " bytes", left < 10000 ? 1 : 0, 1);
    }

    private static void furnish(LentShades x) {
        for (int i = 0; i < 4; i++) {
            x.cloth(3, i, 3 * i);
            x.thing(12 - 3 * i);
        }
        for (int i = 0; i < 4; i++) {
            for (int n = i + 1; n < 8; n++) {
                x.touch(i, n, 1 + (i + n) % 3);
            }
        }
        for (int k = 0; k < 6; k++) {
            x.borrower(k % 4, k, k + 2, k);
        }
    }

    private static void dearCalls(LentShades x) {
        for (int k = 0; k < 30; k++) {
            x.sleep();
            x.moves(k % 4, 5, 5, 3, 2);
            x.shade(k % 4, 12);
            x.rest(k % 4);
            x.least(k % 4, k % 4, 12, 9);
            x.soRed(k % 4, 12);
            x.chest(-1);
            x.morning(1, 2, -1);
            x.surely(1, 3);
            x.lent(1);
            x.colours();
            x.image(k % 2);
            x.from(k % 2);
            x.undo();
            x.type(k, 8);
            x.read();
            x.digest();
        }
    }
}
