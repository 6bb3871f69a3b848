/** Promises 7 to 13 and 35 to 37: lodger, sheet, the acts, undo, count, image, back. */
public final class ActsTest {
    private static final Checks CHECKS = new Checks("ActsTest");
    private static final String FOUR =
        "house 3 2;lodger 10 8;lodger 4 9;lodger 15 3;lodger 6 6;mix 1 0 1;mix 1 1 2";

    public static void main(String[] args) {
        asTold();
        weeks();
        lastWeek();
        swaps();
        starches();
        darns();
        undoes();
        counts();
        images();
        CHECKS.close();
    }

    private static void lodgerIs(LinenName x, int lodger, int wants, int sheet, int let, int was) {
        CHECKS.due("lodger(" + lodger + ", 0)", x.lodger(lodger, 0), wants);
        CHECKS.due("lodger(" + lodger + ", 1)", x.lodger(lodger, 1), sheet);
        CHECKS.due("lodger(" + lodger + ", 2)", x.lodger(lodger, 2), let);
        CHECKS.due("lodger(" + lodger + ", 3)", x.lodger(lodger, 3), was);
    }

    private static void sheetIs(LinenName x, int sheet, int grade, int worn, int bed) {
        CHECKS.due("sheet(" + sheet + ", 0)", x.sheet(sheet, 0), grade);
        CHECKS.due("sheet(" + sheet + ", 1)", x.sheet(sheet, 1), worn);
        CHECKS.due("sheet(" + sheet + ", 2)", x.sheet(sheet, 2), bed);
    }

    private static void asTold() {
        LinenName x = Checks.told(FOUR);
        lodgerIs(x, 0, 8, 0, 1, 0);
        lodgerIs(x, 1, 9, 1, 0, 0);
        lodgerIs(x, 2, 3, 2, 1, 0);
        lodgerIs(x, 3, 6, 3, 1, 0);
        sheetIs(x, 0, 10, 0, 0);
        sheetIs(x, 3, 6, 0, 3);
        int[][] wrong = {{-1, 0}, {4, 0}, {7, 0}, {0, -1}, {0, 4}, {Integer.MIN_VALUE, 1}, {Integer.MAX_VALUE, 1}};
        for (int[] w : wrong) {
            CHECKS.due("lodger(" + w[0] + ", " + w[1] + ")", x.lodger(w[0], w[1]), -1);
            CHECKS.due("sheet(" + w[0] + ", " + w[1] + ")", x.sheet(w[0], w[1]), -1);
        }
        CHECKS.due("sheet(0, 3)", x.sheet(0, 3), -1);
    }

    private static void weeks() {
        LinenName x = Checks.told(FOUR);
        CHECKS.due("week 0", x.week(), 13);
        sheetIs(x, 0, 10, 1, 0);
        CHECKS.due("week 1, with its mixes in their order", x.week(), 14);
        lodgerIs(x, 0, 8, 1, 0, 1);
        lodgerIs(x, 1, 9, 2, 1, 1);
        lodgerIs(x, 2, 3, 0, 1, 2);
        lodgerIs(x, 3, 6, 3, 1, 2);
        CHECKS.due("week 2", x.week(), 14);
        sheetIs(x, 0, 5, 0, 2);
        sheetIs(x, 1, 2, 0, 0);
        sheetIs(x, 2, 7, 0, 1);
        sheetIs(x, 3, 3, 0, 3);
        CHECKS.due("week 3, behind the turning", x.week(), 4);
        CHECKS.due("WEEK", x.count(6), 4);
        CHECKS.due("how often anybody", x.count(9), 3 + 3 + 3 + 1);
        LinenName y = Checks.told("house 1 0;lodger 1 0");
        CHECKS.due("a sheet of a week", y.week(), 1);
        sheetIs(y, 0, 0, 0, 0);
        CHECKS.due("grade 0 lets who wants 0", y.week(), 1);
        LinenName z = Checks.told("house 1 0");
        CHECKS.due("nobody", z.week(), 0);
        CHECKS.due("a week all the same", z.count(6), 1);
        // the laundry first, then the rule, then who is let
        LinenName v = Checks.told("house 9 0;lodger 9 5;lodger 1 5;mix 0 0 1", "fold 1 if grade < gradeo");
        CHECKS.due("the rule puts the mix right", v.week(), 1);
        CHECKS.due("home", v.count(8), 3);
    }

    /** Takes more than the 512 calls that are promised: WEEK 999 lies behind these. */
    private static void lastWeek() {
        LinenName x = Checks.told("house 30 0;lodger 20 0;lodger 0 20");
        Checks.weeks(x, 998);
        CHECKS.due("week() in 998", x.week(), 1);
        CHECKS.due("WEEK", x.count(6), 999);
        CHECKS.due("week() in 999", x.week(), -1);
        CHECKS.due("WEEK stays", x.count(6), 999);
        CHECKS.due("acts", x.count(11), 20);
        CHECKS.due("weeks asked go on", x.ahead(0, 100, 2), 1099);
        CHECKS.due("TURNED beyond", x.turned(0), 999 + 30 - 999 % 30 - 1);
    }

    private static void swaps() {
        LinenName x = Checks.told(FOUR);
        CHECKS.due("swap(0, 2)", x.swap(0, 2), 2);
        CHECKS.due("swap(3, 2)", x.swap(3, 2), 0);
        CHECKS.due("on 3", x.lodger(3, 1), 0);
        CHECKS.due("on 2", x.lodger(2, 1), 3);
        CHECKS.due("bed of 0", x.sheet(0, 2), 3);
        CHECKS.due("two acts", x.count(11), 2);
        int[][] wrong = {{0, 0}, {-1, 0}, {0, -1}, {4, 0}, {0, 4}, {7, 8}};
        for (int[] w : wrong) {
            CHECKS.due("swap(" + w[0] + ", " + w[1] + ")", x.swap(w[0], w[1]), -1);
        }
        CHECKS.due("no act", x.count(11), 2);
        CHECKS.due("without a house", new LinenName().swap(0, 1), -1);
    }

    private static void starches() {
        LinenName x = Checks.told("house 3 9;lodger 20 1;lodger 1 20");
        CHECKS.due("starch(1)", x.starch(1), 10);
        CHECKS.due("starch(2)", x.starch(2), -1);
        CHECKS.due("starch(-1)", x.starch(-1), -1);
        for (int i = 1; i <= 8; i++) {
            CHECKS.due("starch(0)", x.starch(0), 20 + 9 * i);
        }
        CHECKS.due("99 at most", x.starch(0), 99);
        CHECKS.due("an act all the same", x.starch(0), 99);
        CHECKS.due("acts", x.count(11), 11);
        LinenName y = Checks.told("house 3 0;lodger 20 1");
        CHECKS.due("without STARCH", y.starch(0), -1);
        CHECKS.due("no act", y.count(11), 0);
    }

    private static void darns() {
        LinenName x = Checks.told(FOUR);
        CHECKS.due("darn of a new one", x.darn(0), -1);
        Checks.weeks(x, 2);
        CHECKS.due("darn(0)", x.darn(0), 2);
        CHECKS.due("WORN", x.sheet(0, 1), 0);
        CHECKS.due("darn(0) again", x.darn(0), -1);
        CHECKS.due("darn(4)", x.darn(4), -1);
        CHECKS.due("darn(-1)", x.darn(-1), -1);
        CHECKS.due("acts", x.count(11), 3);
        x.week();
        sheetIs(x, 0, 10, 1, 2);
        sheetIs(x, 1, 2, 0, 0);
    }

    private static void undoes() {
        LinenName x = Checks.told(FOUR, "fold 1");
        x.force(LinenName.NONE);
        Checks.weeks(x, 3);
        x.swap(0, 1);
        x.starch(1);
        x.week();
        x.darn(1);
        x.force(0);
        x.seed(5);
        x.note(0, 0, 0);
        CHECKS.due("undo a darn", x.undo(), 6);
        sheetIs(x, 1, 4, 1, 1);
        CHECKS.due("undo a week", x.undo(), 5);
        CHECKS.due("WEEK", x.count(6), 3);
        CHECKS.due("WORN", x.sheet(1, 1), 0);
        CHECKS.due("undo a starch", x.undo(), 4);
        CHECKS.due("GRADE", x.sheet(1, 0), 2);
        CHECKS.due("undo a swap", x.undo(), 3);
        CHECKS.due("on 0", x.lodger(0, 1), 1);
        CHECKS.due("undo the turning", x.undo(), 2);
        sheetIs(x, 0, 10, 2, 2);
        CHECKS.due("was let", x.count(9), 6);
        CHECKS.due("undo the mixes", x.undo(), 1);
        CHECKS.due("on 0", x.lodger(0, 1), 0);
        CHECKS.due("undo", x.undo(), 0);
        CHECKS.due("undo none", x.undo(), -1);
        CHECKS.due("WEEK", x.count(6), 0);
        CHECKS.due("was let", x.count(9), 0);
        CHECKS.due("IN FORCE stays", x.count(5), 0);
        CHECKS.due("x stays", x.count(12), 5);
        CHECKS.due("NOTES stay", x.count(10), 1);
        lastTwenty();
    }

    private static void lastTwenty() {
        LinenName x = Checks.told(FOUR);
        for (int i = 1; i <= 25; i++) {
            x.week();
            CHECKS.due("acts", x.count(11), Math.min(i, 20));
        }
        for (int i = 19; i >= 0; i--) {
            CHECKS.due("undo", x.undo(), i);
        }
        CHECKS.due("undo none", x.undo(), -1);
        CHECKS.due("WEEK", x.count(6), 5);
        x.week();
        x.swap(0, 1);
        CHECKS.due("undo", x.undo(), 1);
        CHECKS.due("undo", x.undo(), 0);
        CHECKS.due("WEEK", x.count(6), 5);
    }

    private static void counts() {
        LinenName x = Checks.told(FOUR, "fold 0", "fold 1");
        x.force(1);
        x.seed(9);
        x.note(3, 1, 2);
        x.note(4, 1, 2);
        x.force(LinenName.NONE);
        Checks.weeks(x, 2);
        x.force(1);
        Checks.say(x, "abc");
        int[] want = {3, 2, 4, 2, 2, 1, 2, 14, 8, 6, 2, 2, 9, 3};
        for (int what = 0; what < want.length; what++) {
            CHECKS.due("count(" + what + ")", x.count(what), want[what]);
        }
        CHECKS.due("count(14)", x.count(14), -1);
        CHECKS.due("count(-1)", x.count(-1), -1);
        CHECKS.due("count(least)", x.count(Integer.MIN_VALUE), -1);
    }

    private static void imagesOfNotes() {
        LinenName x = Checks.told("house 9 0;lodger 1 1;lodger 1 1;lodger 1 1", "fold 1", "fold other");
        x.note(1, 0, 1);
        x.note(2, 1, 1);
        CHECKS.due("by rule 0", x.ruled(0) * 10 + x.ruled(1), 10);
        x.image(2);
        x.note(-1, 0, 0);
        x.note(2, 0, 0);
        x.note(3, 0, 2);
        CHECKS.due("by rule 1", x.ruled(0) * 10 + x.ruled(1), 11);
        x.back(2);
        CHECKS.due("by rule 0 again", x.ruled(0) * 10 + x.ruled(1), 10);
        Checks.house(x, "house 9 0;lodger 2 1;lodger 2 1;mix 0 0 1");
        x.back(2);
        CHECKS.due("the house as it was told", x.ruled(0) * 10 + x.ruled(1), 10);
    }

    private static void images() {
        LinenName x = new LinenName();
        CHECKS.due("image(-1)", x.image(-1), -1);
        CHECKS.due("image(4)", x.image(4), -1);
        CHECKS.due("back(4)", x.back(4), -1);
        CHECKS.due("back(-1)", x.back(-1), -1);
        CHECKS.due("back(3) never made", x.back(3), -1);
        CHECKS.due("an image of no house", x.image(3), 0);
        Checks.house(x, FOUR);
        Checks.rule(x, "fold 1 if week > 3");
        x.force(0);
        x.seed(4);
        x.note(1, 1, 1);
        Checks.weeks(x, 3);
        CHECKS.due("image(0)", x.image(0), 3);
        CHECKS.due("nothing is undone by it", x.count(11), 3);
        Checks.weeks(x, 2);
        x.seed(8);
        x.note(2, 1, 1);
        CHECKS.due("image(1)", x.image(1), 5);
        Checks.house(x, "house 7 7;lodger 1 1");
        Checks.rule(x, "fold 2");
        x.force(1);
        Checks.say(x, "tape");
        CHECKS.due("back(0)", x.back(0), 3);
        int[] want = {3, 2, 4, 2, 2, 0, 3, 4, 8, 9, 1, 0, 4, 4};
        for (int what = 0; what < want.length; what++) {
            CHECKS.due("count(" + what + ") behind", x.count(what), want[what]);
        }
        CHECKS.due("undo()", x.undo(), -1);
        sheetIs(x, 0, 5, 0, 2);
        lodgerIs(x, 1, 9, 2, 0, 2);
        x.swap(0, 1);
        CHECKS.due("back(0) again", x.back(0), 3);
        CHECKS.due("as it was", x.lodger(0, 1), 1);
        CHECKS.due("back(1)", x.back(1), 5);
        CHECKS.due("x", x.count(12), 8);
        CHECKS.due("NOTES", x.count(10), 2);
        imagesOfNotes();
        CHECKS.due("back(2)", x.back(2), -1);
        CHECKS.due("back(3)", x.back(3), 0);
        CHECKS.due("no house", x.week(), -1);
        CHECKS.due("no force", x.count(5), -1);
        CHECKS.due("rules stay", x.count(4), 2);
    }
}
