import com.sun.management.ThreadMXBean;
import java.lang.management.ManagementFactory;
import java.util.function.IntSupplier;

/** All calls of a run live in one room: no call but a rule that is taken may make anything. */
public final class RoomTest {
    private static final Checks CHECKS = new Checks("RoomTest");
    private static final int TIMES = 50;
    private static final long MOST_A_NEW_ONE = 40_000;
    private static final ThreadMXBean ROOM = (ThreadMXBean) ManagementFactory.getThreadMXBean();

    public static void main(String[] args) {
        String house = "house 3 2" + ";lodger 10 8;lodger 4 9;lodger 15 3".repeat(2) + ";lodger 6 6;mix 1 0 1;mix 1 1 2";
        LinenName x = Checks.told(house, "fold gradeo-grade if wants > grade and not [week = 3]", "fold one if was<lets");
        x.note(2, 3, 3);
        CHECKS.due("the house stands", x.count(2), 7);
        CHECKS.due("the rules stand", x.count(4), 2);
        acts(x);
        asked(x);
        texts(x);
        makesAtMost("new LinenName()", MOST_A_NEW_ONE * TIMES, () -> new LinenName().count(0));
        CHECKS.close();
    }

    private static void acts(LinenName x) {
        makesNothing("week()", x::week);
        makesNothing("swap(0, 1)", () -> x.swap(0, 1));
        makesNothing("starch(0)", () -> x.starch(0));
        makesNothing("darn(0)", () -> x.darn(0));
        makesNothing("undo()", x::undo);
        makesNothing("image(0)", () -> x.image(0));
        makesNothing("back(0)", () -> x.back(0));
        makesNothing("force(0)", () -> x.force(0));
        makesNothing("seed(5)", () -> x.seed(5));
    }

    private static void asked(LinenName x) {
        makesNothing("lodger(0, 2)", () -> x.lodger(0, 2));
        makesNothing("sheet(0, 2)", () -> x.sheet(0, 2));
        makesNothing("ahead(0, 100, 2)", () -> x.ahead(0, 100, 2));
        makesNothing("lets(0, 100)", () -> x.lets(0, 100));
        makesNothing("ring(0, 1)", () -> x.ring(0, 1));
        makesNothing("right(2)", () -> x.right(2));
        makesNothing("even()", x::even);
        makesNothing("most(0)", () -> x.most(0));
        makesNothing("told(127, 0)", () -> x.told(127, 0));
        makesNothing("twos(0)", () -> x.twos(0));
        makesNothing("turned(0)", () -> x.turned(0));
        makesNothing("thin()", x::thin);
        makesNothing("home()", x::home);
        makesNothing("carves(60, 0)", () -> x.carves(60, 0));
        makesNothing("nearer(0)", () -> x.nearer(0));
        makesNothing("lock(60, 0)", () -> x.lock(60, 0));
        makesNothing("pence(9999, 0)", () -> x.pence(9999, 0));
        makesNothing("game(0, 1, 3, 0)", () -> x.game(0, 1, 3, 0));
        makesNothing("ruled(0)", () -> x.ruled(0));
        makesNothing("look(60, 0)", () -> x.look(60, 0));
        makesNothing("laundries(10, 60, 50, 0)", () -> x.laundries(10, 60, 50, 0));
        makesNothing("count(7)", () -> x.count(7));
    }

    private static void texts(LinenName x) {
        makesNothing("note(1, 1, 1)", () -> x.note(1, 1, 1));
        makesNothing("feed and end", () -> x.feed(1, 2, 3, 4, 5) + x.end(0));
        // "fold 1+week if one=x", again each time: a rule takes its text with it
        makesNothing("rule() with a fault",
            () -> x.feed(0x666f6c64, 0x20312b77, 0x65656b20, 0x6966206f, 0x6e653d78) + x.rule());
        CHECKS.due("that fault", x.feed(0x666f6c64, 0x20312b77, 0x65656b20, 0x6966206f, 0x6e653d78) + x.rule(),
            20 + Checks.fault(19, 0));
        Checks.say(x, "house 30 9" + ";lodger 1 2".repeat(7) + ";mix 6 0 6".repeat(8) + ";mix 1 0 1");
        makesNothing("house() with a fault", x::house);
    }

    private static void makesNothing(String call, IntSupplier asked) {
        makesAtMost(call, 0, asked);
    }

    private static void makesAtMost(String call, long most, IntSupplier asked) {
        asked.getAsInt();
        long thread = Thread.currentThread().getId();
        ROOM.getThreadAllocatedBytes(thread);
        long before = ROOM.getThreadAllocatedBytes(thread);
        for (int i = 0; i < TIMES; i++) {
            asked.getAsInt();
        }
        long made = ROOM.getThreadAllocatedBytes(thread) - before;
        CHECKS.due(call + " made " + made + " bytes", made <= most ? 1 : 0, 1);
    }
}
