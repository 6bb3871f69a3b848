import java.lang.reflect.Method;
import java.util.ArrayList;
import java.util.Arrays;
import java.util.List;
import java.util.function.Supplier;

/**
 * Every call that the document refuses, and every one that only asks: what it answers, and that nothing happens. Two
 * objects are made alike, the call is made on one, and all that can be seen of them must be the same, then and further.
 */
public final class RefusalsTest {
    private static final Checks CHECKS = new Checks("RefusalsTest");
    private static final String FAR = " 2147483647";
    private static final String NEAR = " -2147483648";

    public static void main(String[] args) throws Exception {
        tapes();
        newObject();
        houseWithoutLodgers();
        houseOfFour();
        houseOfSeven();
        houseGoneFrom();
        full();
        asking();
        CHECKS.close();
    }

    // The objects that are asked. The tape has a rule without a fault, so that it can be seen to stay.

    private static LinenName fresh() {
        LinenName x = new LinenName();
        Checks.say(x, "fold 1");
        return x;
    }

    private static LinenName empty() {
        LinenName x = Checks.told("house 3 2", "fold 1");
        x.image(1);
        x.week();
        Checks.say(x, "fold 1");
        return x;
    }

    private static LinenName four() {
        LinenName x = Checks.told("house 3 2;lodger 10 8;lodger 4 9;lodger 15 3;lodger 6 6;mix 1 0 1;mix 1 1 2;mix 4 0 3",
            "fold 1 if week=2", "fold gradeo-grade if wants>grade");
        x.force(1);
        x.seed(9);
        x.note(1, 1, 1);
        x.week();
        x.image(0);
        x.swap(0, 3);
        x.starch(2);
        x.week();
        x.darn(1);
        x.note(0, 2, 2);
        x.image(2);
        x.swap(1, 2);
        Checks.say(x, "fold 1");
        return x;
    }

    private static LinenName seven() {
        LinenName x = Checks.told("house 30 0" + ";lodger 9 5".repeat(7), "fold one");
        Checks.say(x, "fold 1");
        return x;
    }

    private static LinenName goneFrom() {
        LinenName x = new LinenName();
        x.image(3);
        Checks.house(x, "house 1 9" + ";lodger 9 5".repeat(7));
        Checks.weeks(x, 3);
        x.back(3);
        Checks.say(x, "fold 1");
        return x;
    }

    /** Six rules, ten notes, a tape of 381 bytes, four images, twenty acts. */
    private static LinenName fullOne() {
        LinenName x = Checks.told("house 3 2;lodger 10 8;lodger 4 9", "fold 1", "fold 2", "fold 3", "fold 4", "fold 5", "fold 6");
        for (int i = 0; i < 10; i++) {
            x.note(i, 0, 0);
        }
        Checks.weeks(x, 25);
        for (int k = 0; k < 4; k++) {
            x.image(k);
            x.week();
        }
        Checks.say(x, "fold 1" + " ".repeat(375));
        return x;
    }

    // What is refused, told as the call, its arguments, and what it answers.

    private static void tapes() throws Exception {
        refused("a tape of 381", RefusalsTest::fullOne, "feed 0 0 0 0 0 = -1", "feed 1 2 3 4 5 = -1", "end 382 = -1",
            "end 400 = -1", "end 401 = -1", "end -1 = -1", "end" + FAR + " = -1", "end" + NEAR + " = -1");
        refused("a tape of 400", () -> {
            LinenName x = new LinenName();
            Checks.say(x, "fold 1" + " ".repeat(394));
            return x;
        }, "feed 0 0 0 0 0 = -1", "end 401 = -1");
        refused("a tape of 6", RefusalsTest::fresh, "end 7 = -1", "end -1 = -1", "house = -3");
        refused("an empty tape", LinenName::new, "end 1 = -1", "end -1 = -1", "house = -3", "rule = -3");
    }

    private static void newObject() throws Exception {
        refused("a new object", RefusalsTest::fresh, withoutHouse());
        refused("a new object", RefusalsTest::fresh, "force 0 = -2", "force -2 = -2", "back 0 = -1", "back 3 = -1");
    }

    private static void houseGoneFrom() throws Exception {
        refused("a house gone from", RefusalsTest::goneFrom, withoutHouse());
        refused("a house gone from", RefusalsTest::goneFrom, "back 0 = -1", "back 2 = -1");
    }

    private static String[] withoutHouse() {
        return new String[] {"house = -3", "lodger 0 0 = -1", "lodger 0 1 = -1", "lodger 0 2 = -1", "lodger 0 3 = -1",
            "sheet 0 0 = -1", "sheet 0 1 = -1", "sheet 0 2 = -1", "week = -1", "swap 0 1 = -1", "starch 0 = -1",
            "darn 0 = -1", "undo = -1", "ahead 0 0 0 = -1", "ahead 0 1 1 = -1", "ahead 0 1 2 = -1", "lets 0 0 = -1",
            "lets 0 1 = -1", "ring 0 0 = -1", "ring 0 1 = -1", "right 0 = -1", "right 1 = -1", "right 2 = -1",
            "even = -1", "most -1 = -3", "most 0 = -3", "most 6 = -3", "told 0 -1 = -3", "told 0 0 = -3",
            "told 1 0 = -3", "twos 0 = -1", "twos 1 = -1", "twos 2 = -1", "turned 0 = -1", "thin = -1", "home = -1",
            "carves 1 0 = -1", "carves 1 1 = -1", "nearer 0 = -1", "nearer 1 = -1", "nearer 2 = -1", "lock 1 0 = -2",
            "lock 1 1 = -2", "pence 0 0 = -1", "pence 1 0 = -1", "game 0 1 1 0 = -1000", "game 0 1 1 1 = -1000",
            "note 0 0 0 = -2", "ruled 0 = -3", "ruled 1 = -3", "look 0 0 = -1", "look 0 1 = -1", "seed -1 = -1",
            "laundries 1 1 0 0 = -1", "laundries 1 1 0 1 = -1", "image 4 = -1", "image -1 = -1", "back 4 = -1",
            "back -1 = -1", "count 14 = -1", "count -1 = -1"};
    }

    private static void houseWithoutLodgers() throws Exception {
        refused("a house without lodgers", RefusalsTest::empty, "house = -3", "force 1 = -2", "lodger 0 0 = -1",
            "sheet 0 0 = -1", "swap 0 1 = -1", "starch 0 = -1", "darn 0 = -1", "ahead 0 0 0 = -1", "lets 0 1 = -1",
            "ring 0 0 = -1", "right 1 = -2", "right 2 = -2", "right 3 = -1", "right -1 = -1", "most 0 = -2",
            "most 6 = -2", "most 7 = -3", "most -2 = -3", "told 0 0 = -2", "told 0 6 = -2", "told 0 7 = -3",
            "told 0 -2 = -3", "told 1 -1 = -3", "told -1 -1 = -3", "twos 1 = -2", "twos 2 = -2", "twos 3 = -1",
            "twos -1 = -1", "turned 0 = -1", "thin = -2", "carves 1 0 = -2", "carves 60 0 = -2", "carves 1 1 = 0",
            "carves 0 0 = -1", "carves 61 1 = -1", "nearer 1 = -2", "nearer 2 = -2", "nearer 3 = -1", "lock 1 0 = -1",
            "lock 0 0 = -2", "lock 61 0 = -2", "lock 1 2 = -2", "pence 0 0 = -1", "game 0 1 1 0 = -1000",
            "note 0 0 0 = -2", "ruled 2 = -3", "ruled -1 = -3", "look 0 0 = -2", "look 60 1 = -2", "look 61 0 = -1",
            "look -1 0 = -1", "look 0 2 = -1", "laundries 0 1 0 0 = -1", "laundries 1 1 0 2 = -1", "back 0 = -1",
            "back 2 = -1", "back 3 = -1");
    }

    private static void houseOfFour() throws Exception {
        refused("four", RefusalsTest::four, "house = -3", "force 2 = -2", "force 5 = -2", "force 6 = -2", "force -2 = -2",
            "force" + FAR + " = -2", "force" + NEAR + " = -2", "lodger 4 0 = -1", "lodger -1 0 = -1", "lodger 0 4 = -1",
            "lodger 0 -1 = -1", "sheet 4 0 = -1", "sheet -1 0 = -1", "sheet 0 3 = -1", "sheet 0 -1 = -1",
            "swap 0 0 = -1", "swap 3 3 = -1", "swap 0 4 = -1", "swap 4 0 = -1", "swap -1 0 = -1", "swap 0 -1 = -1",
            "swap 4 4 = -1", "starch 4 = -1", "starch -1 = -1", "darn 4 = -1", "darn -1 = -1", "darn 1 = -1",
            "back 1 = -1", "back 3 = -1", "back 4 = -1", "back -1 = -1", "back" + FAR + " = -1", "back" + NEAR + " = -1",
            "image 4 = -1", "image -1 = -1", "image" + FAR + " = -1", "image" + NEAR + " = -1", "seed -1 = -1",
            "seed" + NEAR + " = -1", "count 14 = -1", "count -1 = -1", "count" + FAR + " = -1", "count" + NEAR + " = -1");
        refused("four", RefusalsTest::four, "ahead 4 0 0 = -1", "ahead -1 0 0 = -1", "ahead 0 -1 0 = -1", "ahead 0 101 0 = -1",
            "ahead 0 0 3 = -1", "ahead 0 0 -1 = -1", "ahead 0" + FAR + " 0 = -1", "lets 4 1 = -1", "lets -1 1 = -1",
            "lets 0 101 = -1", "lets 0 -1 = -1", "ring 4 0 = -1", "ring -1 0 = -1", "ring 0 2 = -1", "ring 0 -1 = -1",
            "right 3 = -1", "right -1 = -1", "most 4 = -2", "most 6 = -2", "most 7 = -3", "most -2 = -3",
            "told 0 4 = -2", "told 0 6 = -2", "told 0 7 = -3", "told 0 -2 = -3", "told 16 -1 = -3", "told 17 0 = -3",
            "told -1 -1 = -3", "told" + NEAR + " 0 = -3", "told" + FAR + " 0 = -3", "twos 3 = -1", "twos -1 = -1",
            "turned 4 = -1", "turned -1 = -1", "carves 0 0 = -1", "carves 61 0 = -1", "carves -1 1 = -1", "carves 1 2 = -1",
            "carves 1 -1 = -1", "nearer 3 = -1", "nearer -1 = -1", "lock 0 0 = -2", "lock 61 0 = -2", "lock -1 1 = -2",
            "lock 1 2 = -2", "lock 1 -1 = -2");
        refused("four", RefusalsTest::four, "pence -1 0 = -1", "pence 10000 0 = -1", "pence 0 4 = -1", "pence 0 -1 = -1",
            "game 0 0 1 0 = -1000", "game 4 0 1 0 = -1000", "game 0 4 1 0 = -1000", "game -1 0 1 0 = -1000",
            "game 0 -1 1 0 = -1000", "game 0 1 0 0 = -1000", "game 0 1 4 0 = -1000", "game 0 1 -1 0 = -1000",
            "game 0 1 1 3 = -1000", "game 0 1 1 -1 = -1000", "note -2 0 0 = -2", "note 61 0 0 = -2", "note 0 4 0 = -2",
            "note 0 -1 0 = -2", "note 0 0 4 = -2", "note 0 0 -1 = -2", "note" + NEAR + " 0 0 = -2", "ruled 2 = -3",
            "ruled -1 = -3", "look -1 0 = -1", "look 61 0 = -1", "look 0 2 = -1", "look 0 -1 = -1",
            "laundries 0 1 0 0 = -1", "laundries 11 1 0 0 = -1", "laundries 1 0 0 0 = -1", "laundries 1 61 0 0 = -1",
            "laundries 1 1 -1 0 = -1", "laundries 1 1 101 0 = -1", "laundries 1 1 0 2 = -1", "laundries 1 1 0 -1 = -1");
    }

    private static void houseOfSeven() throws Exception {
        refused("seven", RefusalsTest::seven, "lodger 7 0 = -1", "sheet 7 0 = -1", "swap 0 7 = -1", "swap 7 6 = -1",
            "starch 0 = -1", "starch 6 = -1", "starch 7 = -1", "darn 0 = -1", "darn 6 = -1", "darn 7 = -1", "undo = -1",
            "ahead 7 0 0 = -1", "lets 7 1 = -1", "ring 7 0 = -1", "most 7 = -3", "told 128 -1 = -3", "told 0 7 = -3",
            "turned 7 = -1", "pence 0 7 = -1", "game 0 7 1 0 = -1000", "game 7 0 1 0 = -1000", "note 0 7 0 = -2",
            "note 0 0 7 = -2", "right 1 = -2", "right 2 = -2", "nearer 1 = -2", "twos 2 = -2");
    }

    private static void full() throws Exception {
        refused("all that there can be", RefusalsTest::fullOne, "rule = -1", "force 6 = -2", "note 0 0 0 = -2",
            "note 60 1 1 = -2", "note -2 0 0 = -2", "image 4 = -1", "back 4 = -1", "house = -3");
        // a seventh rule is refused for being one, with a fault or without
        refused("a seventh rule with a fault", () -> {
            LinenName x = fullOne();
            x.end(4);
            return x;
        }, "rule = -1");
    }

    /** "By what is asked nothing changes", and what tells how it is changes nothing either. */
    private static void asking() throws Exception {
        List<String> calls = new ArrayList<>(Arrays.asList("even", "thin", "home", "lets 0 0", "lets 1 100", "most -1",
            "most 0", "told 0 -1", "told 15 2", "told 6 0", "turned 3", "carves 60 0", "carves 60 1", "lock 60 0",
            "lock 60 1", "pence 9999 2", "game 0 1 3 0", "game 3 2 2 1", "look 60 0", "look 2 1", "ruled 0", "ruled 1",
            "laundries 10 60 50 0", "laundries 10 60 100 1", "ring 2 0", "ring 2 1", "ahead 0 100 0", "ahead 3 100 1",
            "ahead 3 100 2", "force 1"));
        for (int what = 0; what <= 13; what++) {
            calls.add("count " + what);
            calls.add("lodger 1 " + what % 4);
            calls.add("sheet 1 " + what % 3);
            calls.add("right " + what % 3);
            calls.add("twos " + what % 3);
            calls.add("nearer " + what % 3);
        }
        for (String call : calls) {
            nothingHappens("four", RefusalsTest::four, call);
        }
    }

    private static void refused(String name, Supplier<LinenName> made, String... rows) throws Exception {
        for (String row : rows) {
            int at = row.indexOf('=');
            String call = row.substring(0, at).trim();
            int want = Integer.parseInt(row.substring(at + 1).trim());
            CHECKS.due(name + ": " + call, nothingHappens(name, made, call), want);
        }
    }

    private static int nothingHappens(String name, Supplier<LinenName> made, String call) throws Exception {
        LinenName touched = made.get();
        LinenName left = made.get();
        int answer = ask(touched, call);
        CHECKS.due(name + ": " + call + " lets all be as it is", same(touched, left), 1);
        return answer;
    }

    private static int ask(LinenName x, String call) throws Exception {
        String[] parts = call.split(" ");
        Class<?>[] types = new Class<?>[parts.length - 1];
        Object[] args = new Object[parts.length - 1];
        for (int i = 0; i < args.length; i++) {
            types[i] = int.class;
            args[i] = Integer.valueOf(parts[i + 1]);
        }
        Method m = LinenName.class.getMethod(parts[0], types);
        return (int) m.invoke(x, args);
    }

    // Whether two objects are alike, as far as any later call can tell.

    private static int same(LinenName a, LinenName b) {
        boolean same = seen(a).equals(seen(b)) && a.house() == b.house() && a.rule() == b.rule()
            && seen(a).equals(seen(b));
        for (int i = 0; i <= 21; i++) {
            same = same && a.undo() == b.undo() && seen(a).equals(seen(b));
        }
        for (int k = 0; k < 4; k++) {
            same = same && a.back(k) == b.back(k) && seen(a).equals(seen(b));
        }
        return same ? 1 : 0;
    }

    private static String seen(LinenName x) {
        StringBuilder all = new StringBuilder();
        for (int what = 0; what <= 13; what++) {
            all.append(x.count(what)).append(' ');
        }
        for (int i = 0; i < 7; i++) {
            for (int what = 0; what < 4; what++) {
                all.append(x.lodger(i, what)).append(' ').append(x.sheet(i, what)).append(' ');
            }
            all.append(x.ahead(i, 5, 0)).append(' ').append(x.ahead(i, 5, 1)).append(' ').append(x.ahead(i, 5, 2)).append(' ');
        }
        all.append(x.ruled(0)).append(' ').append(x.ruled(1)).append(' ').append(x.look(7, 1)).append(' ');
        return all.append(x.laundries(3, 20, 50, 0)).toString();
    }
}
