import java.lang.reflect.Method;
import java.nio.charset.StandardCharsets;
import java.util.ArrayList;
import java.util.List;
import java.util.Random;

/** Runs of drawn calls, the same each time, on the class and on the plain model: all answers must agree. */
public final class RandomRunsTest {
    private static final int RUNS = 400;
    private static final int CALLS = 500;
    private static final int MOST_SHOWN = 20;

    private final Random random;
    private final LinenName x = new LinenName();
    private final PlainModel model = new PlainModel();
    private final List<String> calls = new ArrayList<>();
    private int made;

    private RandomRunsTest(long seed) {
        random = new Random(seed);
    }

    public static void main(String[] args) throws Exception {
        Checks checks = new Checks("RandomRunsTest");
        List<Method> methods = new ArrayList<>();
        for (Method m : LinenName.class.getMethods()) {
            if (m.getDeclaringClass() == LinenName.class) {
                methods.add(m);
            }
        }
        methods.sort((a, b) -> a.getName().compareTo(b.getName()));
        int shown = 0;
        for (int run = 0; run < RUNS && shown < MOST_SHOWN; run++) {
            RandomRunsTest test = new RandomRunsTest(run);
            boolean good = test.play(methods);
            checks.due("run " + run + (good ? "" : " " + test.calls), good ? 1 : 0, 1);
            shown += good ? 0 : 1;
        }
        checks.close();
    }

    private boolean play(List<Method> methods) throws Exception {
        boolean good = true;
        if (random.nextInt(20) > 0) {
            good = tell("house", houseText());
            for (int i = random.nextInt(4); i > 0; i--) {
                good &= tell("rule", ruleText());
            }
            good &= call("force", random.nextInt(3) - 1);
        }
        while (good && made < CALLS) {
            int kind = random.nextInt(100);
            if (kind < 2) {
                good = tell("house", houseText());
            } else if (kind < 5) {
                good = tell("rule", ruleText());
            } else if (kind < 25) {
                good = act();
            } else {
                Method m = methods.get(random.nextInt(methods.size()));
                int[] args = new int[m.getParameterCount()];
                for (int i = 0; i < args.length; i++) {
                    args[i] = argument(m.getName());
                }
                good = call(m.getName(), args);
            }
        }
        return good;
    }

    private boolean act() throws Exception {
        switch (random.nextInt(6)) {
            case 0: return call("swap", random.nextInt(7), random.nextInt(7));
            case 1: return call("starch", random.nextInt(7));
            case 2: return call("darn", random.nextInt(7));
            case 3: return call("undo");
            default: return call("week");
        }
    }

    private int argument(String name) {
        int kind = random.nextInt(30);
        if (kind == 0) {
            return random.nextInt();
        }
        if (kind < 4) {
            return random.nextInt(130) - 10;
        }
        if (name.equals("seed") || name.equals("feed")) {
            return random.nextInt();
        }
        return kind < 8 ? random.nextInt(61) : random.nextInt(8) - 1;
    }

    private boolean call(String name, int... args) throws Exception {
        Class<?>[] types = new Class<?>[args.length];
        Object[] boxed = new Object[args.length];
        for (int i = 0; i < args.length; i++) {
            types[i] = int.class;
            boxed[i] = args[i];
        }
        int got = (int) LinenName.class.getMethod(name, types).invoke(x, boxed);
        int want = (int) PlainModel.class.getDeclaredMethod(name, types).invoke(model, boxed);
        made++;
        calls.add(name + java.util.Arrays.toString(args) + " " + got + (got == want ? "" : " due " + want));
        return got == want;
    }

    private boolean tell(String what, String text) throws Exception {
        byte[] bytes = text.getBytes(StandardCharsets.ISO_8859_1);
        boolean good = call("end", 0);
        for (int from = 0; good && from < bytes.length && from < 400; from += 20) {
            int[] fives = new int[5];
            for (int i = 0; i < 20; i++) {
                fives[i / 4] |= (from + i < bytes.length ? bytes[from + i] & 255 : 0) << (24 - i % 4 * 8);
            }
            good = call("feed", fives);
        }
        good = good && call("end", bytes.length);
        calls.add("'" + text + "'");
        return good && call(what);
    }

    // Texts: mostly good ones, some of them spoilt at a place.

    private String houseText() {
        StringBuilder text = new StringBuilder("house ");
        text.append(within(1, 30, 4)).append(blank(true)).append(within(0, 9, 9));
        int lodgers = random.nextInt(8);
        for (int i = 0; i < lodgers; i++) {
            text.append(";").append(blank(false)).append("lodger ").append(within(0, 20, 20));
            text.append(blank(true)).append(within(0, 20, 20)).append(blank(false));
        }
        for (int i = lodgers < 2 ? 0 : random.nextInt(10); i > 0; i--) {
            int one = random.nextInt(lodgers);
            int other = random.nextInt(20) == 0 ? random.nextInt(8) : (one + 1 + random.nextInt(lodgers - 1)) % lodgers;
            text.append(";mix ").append(within(0, 60, 12)).append(" ").append(one).append(" ").append(other);
        }
        return spoilt(text.toString());
    }

    private int within(int least, int most, int often) {
        int kind = random.nextInt(60);
        if (kind == 0) {
            return most + 1;
        }
        return kind < 20 ? least + random.nextInt(most - least + 1) : least + random.nextInt(often);
    }

    private String blank(boolean must) {
        return must || random.nextInt(5) == 0 ? " " : "";
    }

    private String ruleText() {
        StringBuilder text = new StringBuilder();
        int clauses = 1 + (random.nextInt(12) == 0 ? random.nextInt(14) : random.nextInt(3));
        for (int i = 0; i < clauses; i++) {
            text.append(i == 0 ? "" : ";").append("fold ").append(sum());
            if (random.nextInt(3) > 0) {
                text.append(" if ").append(test(random.nextInt(12) == 0 ? 12 : 3));
            }
        }
        return spoilt(text.toString());
    }

    private String test(int deep) {
        StringBuilder text = new StringBuilder(fact(deep));
        for (int i = random.nextInt(3); i > 0; i--) {
            text.append(random.nextBoolean() ? " and " : " or ").append(fact(deep));
        }
        return text.toString();
    }

    private String fact(int deep) {
        int kind = deep == 0 ? 9 : random.nextInt(deep > 3 ? 3 : 10);
        if (kind == 0) {
            return "not " + fact(deep - 1);
        }
        if (kind < 3) {
            return "[" + (deep > 3 ? fact(deep - 1) : test(deep - 1)) + "]";
        }
        String[] signs = {"<", "<=", "=", ">=", ">"};
        return sum() + blank(false) + signs[random.nextInt(5)] + blank(false) + sum();
    }

    private String sum() {
        StringBuilder text = new StringBuilder(value());
        int more = random.nextInt(60) == 0 ? 40 : random.nextInt(4);
        for (int i = 0; i < more; i++) {
            text.append(blank(false)).append("+-*/%".charAt(random.nextInt(5))).append(blank(false)).append(value());
        }
        return text.toString();
    }

    private String value() {
        String[] words = {"one", "other", "grade", "gradeo", "wants", "wantso", "worn", "worno", "home", "lets", "was", "week"};
        int kind = random.nextInt(40);
        if (kind == 0) {
            return String.valueOf(random.nextInt(110000));
        }
        return kind < 12 ? String.valueOf(random.nextInt(10)) : words[random.nextInt(12)];
    }

    private String spoilt(String text) {
        String kept = text.length() > 400 ? text.substring(0, 400) : text;
        int kind = random.nextInt(8);
        int place = random.nextInt(kept.length());
        if (kind == 0) {
            return kept.substring(0, place);
        }
        if (kind == 1) {
            return kept.substring(0, place) + "; <=>[]+-*/%0159aoz\0".charAt(random.nextInt(20)) + kept.substring(place + 1);
        }
        if (kind == 2) {
            return kept.substring(0, place) + kept.substring(place + 1);
        }
        return kept;
    }
}
