import java.io.IOException;
import java.lang.reflect.Constructor;
import java.lang.reflect.Field;
import java.lang.reflect.Method;
import java.lang.reflect.Modifier;
import java.nio.file.Files;
import java.nio.file.Path;
import java.util.ArrayList;
import java.util.Arrays;
import java.util.List;
import java.util.Set;
import java.util.TreeSet;
import java.util.regex.Matcher;
import java.util.regex.Pattern;

/** The face as the document has it, and those rules of LANGUAGE.md that can be seen from outside. */
public final class FaceTest {
    private static final Checks CHECKS = new Checks("FaceTest");
    private static final String[] FACE = {
        "ahead 3", "back 1", "carves 2", "count 1", "darn 1", "end 1", "even 0", "feed 5", "force 1", "game 4",
        "home 0", "house 0", "image 1", "laundries 4", "lets 2", "lock 2", "lodger 2", "look 2", "most 1", "nearer 1",
        "note 3", "pence 2", "right 1", "ring 2", "rule 0", "ruled 1", "seed 1", "sheet 2", "starch 1", "swap 2",
        "thin 0", "told 2", "turned 1", "twos 1", "undo 0", "week 0"};

    public static void main(String[] args) throws IOException {
        face();
        insides();
        source(Path.of(args.length > 0 ? args[0] : "src/main/java/LinenName.java"));
        CHECKS.close();
    }

    private static void face() {
        Class<?> c = LinenName.class;
        CHECKS.due("public final", Modifier.isPublic(c.getModifiers()) && Modifier.isFinal(c.getModifiers()) ? 1 : 0, 1);
        Set<String> seen = new TreeSet<>();
        for (Method m : c.getDeclaredMethods()) {
            if (!Modifier.isPrivate(m.getModifiers())) {
                seen.add(m.getName() + " " + m.getParameterCount());
                CHECKS.due(m.getName() + " answers an int", m.getReturnType() == int.class ? 1 : 0, 1);
                for (Class<?> p : m.getParameterTypes()) {
                    CHECKS.due(m.getName() + " takes ints", p == int.class ? 1 : 0, 1);
                }
            }
        }
        CHECKS.due("the methods " + seen, seen.equals(new TreeSet<>(Arrays.asList(FACE))) ? 1 : 0, 1);
        for (Field f : c.getDeclaredFields()) {
            CHECKS.due("the field " + f.getName(),
                Modifier.isPrivate(f.getModifiers()) || f.getName().equals("NONE") ? 1 : 0, 1);
        }
        Constructor<?>[] made = c.getDeclaredConstructors();
        CHECKS.due("one constructor", made.length, 1);
        CHECKS.due("without arguments", made[0].getParameterCount(), 0);
        CHECKS.due("NONE", LinenName.NONE, -1);
    }

    private static void insides() {
        Class<?>[] classes = LinenName.class.getDeclaredClasses();
        CHECKS.due("some twelve classes", classes.length <= 11 ? 1 : 0, 1);
        Set<String> names = new TreeSet<>();
        for (String call : FACE) {
            names.add(call.substring(0, call.indexOf(' ')));
        }
        for (Class<?> c : classes) {
            CHECKS.due(c.getName() + " is static", Modifier.isStatic(c.getModifiers()) ? 1 : 0, 1);
            for (Method m : c.getDeclaredMethods()) {
                CHECKS.due(c.getName() + "." + m.getName() + " has a name of its own", names.contains(m.getName()) ? 1 : 0, 0);
                CHECKS.due(m.getName() + " takes at most seven", m.getParameterCount() <= 7 ? 1 : 0, 1);
            }
        }
        List<Class<?>> all = new ArrayList<>(Arrays.asList(classes));
        all.add(LinenName.class);
        for (Class<?> c : all) {
            int fields = 0;
            for (Field f : c.getDeclaredFields()) {
                boolean isStatic = Modifier.isStatic(f.getModifiers());
                fields += isStatic ? 0 : 1;
                CHECKS.due(f.getName() + " is final, if static", isStatic && !Modifier.isFinal(f.getModifiers()) ? 1 : 0, 0);
            }
            CHECKS.due(c.getName() + " has some twenty fields at most", fields <= 20 ? 1 : 0, 1);
        }
    }

    private static void source(Path file) throws IOException {
        String text = Files.readString(file);
        String bare = text.replaceAll("(?s)/\\*.*?\\*/", " ").replaceAll("//[^\n]*", " ")
            .replaceAll("\"(\\\\.|[^\"\\\\])*\"", "\"\"").replaceAll("'(\\\\.|[^'\\\\])'", "0");
        String[] refused = {"\\bthrow\\b", "\\btry\\b", "\\bcatch\\b", "\\bsynchronized\\b", "\\bassert\\b", "->", "::",
            "Exact\\s*\\(", "static\\s*\\{", "\\bpackage\\b", "\\bprotected\\b", "\\bThread\\b", "\\bRandom\\b",
            "System\\.(?!arraycopy)", "Math\\.random", "\\bequals\\b", "\\bhashCode\\b", "\\btoString\\b",
            "import (?!java\\.util\\.Arrays;)", "\\[\\]\\[\\]\\[\\]"};
        for (String sign : refused) {
            CHECKS.due("the source has " + sign, Pattern.compile(sign).matcher(bare).find() ? 1 : 0, 0);
        }
        for (String line : text.split("\n", -1)) {
            for (char sign : line.toCharArray()) {
                if (sign > 127) {
                    CHECKS.due("a sign beyond 127 in " + line, 1, 0);
                }
            }
        }
        Matcher m = Pattern.compile("(?m)^( +)[^\n=;]*\\) \\{\n(.*?)^\\1\\}", Pattern.DOTALL).matcher(bare);
        while (m.find()) {
            int lines = m.group(2).split("\n", -1).length;
            CHECKS.due("a method of " + lines + " lines", lines <= 60 ? 1 : 0, 1);
        }
    }
}
