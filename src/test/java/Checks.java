import java.nio.charset.StandardCharsets;

/** What all tests share: counting answers, and telling texts to an object. */
final class Checks {
    private final String name;
    private int passed;
    private int failed;

    Checks(String name) {
        this.name = name;
    }

    void due(String call, long got, long want) {
        if (got == want) {
            passed++;
        } else {
            failed++;
            System.out.println(name + ": " + call + " answered " + got + ", due is " + want);
        }
    }

    /** Prints the closing line; the exit code is 1 if an answer was not the one that is due. */
    void close() {
        System.out.println(name + ": " + passed + " passed, " + failed + " failed");
        if (failed != 0) {
            System.exit(1);
        }
    }

    /** Puts a text of signs 0 to 255 behind what the tape has. */
    static void say(LinenName x, String text) {
        byte[] bytes = text.getBytes(StandardCharsets.ISO_8859_1);
        int before = x.count(13);
        for (int from = 0; from < bytes.length; from += 20) {
            int[] fives = new int[5];
            for (int i = 0; i < 20; i++) {
                int sign = from + i < bytes.length ? bytes[from + i] & 255 : 0;
                fives[i / 4] |= sign << (24 - i % 4 * 8);
            }
            x.feed(fives[0], fives[1], fives[2], fives[3], fives[4]);
        }
        x.end(before + bytes.length);
    }

    static int house(LinenName x, String text) {
        x.end(0);
        say(x, text);
        return x.house();
    }

    static int rule(LinenName x, String text) {
        x.end(0);
        say(x, text);
        return x.rule();
    }

    /** An object with a house and rules, the first of which is in force. */
    static LinenName told(String house, String... rules) {
        LinenName x = new LinenName();
        house(x, house);
        for (String text : rules) {
            rule(x, text);
        }
        x.force(rules.length == 0 ? LinenName.NONE : 0);
        return x;
    }

    static int fault(int place, int code) {
        return -2 - (1 + 8 * place + code);
    }

    static void weeks(LinenName x, int n) {
        for (int i = 0; i < n; i++) {
            x.week();
        }
    }
}
