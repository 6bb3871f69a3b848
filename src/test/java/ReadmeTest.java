import java.io.IOException;
import java.lang.reflect.Method;
import java.lang.reflect.Modifier;
import java.nio.file.Files;
import java.nio.file.Path;

/** README.md holds what it says: its example, call by call, and a name for each call of the face. */
public final class ReadmeTest {
    private static final Checks CHECKS = new Checks("ReadmeTest");

    public static void main(String[] args) throws IOException {
        String readme = Files.readString(Path.of("README.md"));
        example(readme);
        for (Method m : LinenName.class.getDeclaredMethods()) {
            if (Modifier.isPublic(m.getModifiers())) {
                CHECKS.due("README.md names " + m.getName(), readme.contains("`" + m.getName() + "`") ? 1 : 0, 1);
            }
        }
        CHECKS.close();
    }

    private static void example(String readme) {
        LinenName x = new LinenName();
        step(readme, "x.feed(0x686f7573, 0x65203320, 0x32000000, 0, 0)", x.feed(0x686f7573, 0x65203320, 0x32000000, 0, 0), 20);
        step(readme, "x.end(9)", x.end(9), 9);
        step(readme, "x.house()", x.house(), 0);
        step(readme, "Checks.house(x, \"house 3 2;lodger 10 8;lodger 4 9;mix 1 0 1\")",
            Checks.house(x, "house 3 2;lodger 10 8;lodger 4 9;mix 1 0 1"), 2);
        step(readme, "Checks.rule(x, \"fold gradeo - grade if wants > grade\")",
            Checks.rule(x, "fold gradeo - grade if wants > grade"), 0);
        step(readme, "x.force(0)", x.force(0), LinenName.NONE);
        step(readme, "x.week()", x.week(), 1);
        step(readme, "x.ahead(0, 5, 0)", x.ahead(0, 5, 0), 0);
        step(readme, "x.undo()", x.undo(), 0);
    }

    private static void step(String readme, String call, int got, int want) {
        CHECKS.due("README.md has " + call, readme.contains(call + ";") ? 1 : 0, 1);
        CHECKS.due(call, got, want);
    }
}
