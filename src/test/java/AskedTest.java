/** Promises 14 to 34: what is asked, the notes and the draws. */
public final class AskedTest {
    private static final Checks CHECKS = new Checks("AskedTest");
    private static final int FAR = Integer.MAX_VALUE;
    private static final int NEAR = Integer.MIN_VALUE;
    private static final String FOUR =
        "house 3 2;lodger 10 8;lodger 4 9;lodger 15 3;lodger 6 6;mix 1 0 1;mix 1 1 2";
    private static final String EMPTY = "house 3 2";

    public static void main(String[] args) {
        aheads();
        letsAndCarves();
        rings();
        mosts();
        tolds();
        pairs();
        turnings();
        homes();
        locks();
        pennies();
        games();
        notes();
        looks();
        draws();
        emptyHouse();
        withoutHouse();
        CHECKS.close();
    }

    private static void aheads() {
        LinenName x = Checks.told(FOUR);
        int[][] on = {{0, 1, 2, 3}, {0, 1, 2, 3}, {1, 2, 0, 3}, {1, 2, 0, 3}, {1, 2, 0, 3}};
        int[][] grade = {{10, 4, 15, 6}, {10, 4, 15, 6}, {10, 4, 15, 6}, {5, 2, 7, 3}, {5, 2, 7, 3}};
        int[][] was = {{0, 0, 0, 0}, {1, 0, 1, 1}, {1, 1, 2, 2}, {1, 2, 3, 3}, {1, 2, 4, 3}};
        for (int n = 0; n <= 4; n++) {
            for (int i = 0; i < 4; i++) {
                CHECKS.due("ahead(" + i + ", " + n + ", 0)", x.ahead(i, n, 0), on[n][i]);
                CHECKS.due("ahead(" + i + ", " + n + ", 1)", x.ahead(i, n, 1), grade[n][i]);
                CHECKS.due("ahead(" + i + ", " + n + ", 2)", x.ahead(i, n, 2), was[n][i]);
            }
        }
        CHECKS.due("nothing changes", x.count(6) + x.count(9), 0);
        CHECKS.due("ahead 100", x.ahead(2, 100, 2), 6);
        int[][] wrong = {{4, 1, 0}, {-1, 1, 0}, {0, -1, 0}, {0, 101, 0}, {0, 1, 3}, {0, 1, -1}, {FAR, FAR, 0}, {0, NEAR, 0}};
        for (int[] w : wrong) {
            CHECKS.due("ahead(" + w[0] + ", " + w[1] + ", " + w[2] + ")", x.ahead(w[0], w[1], w[2]), -1);
        }
        Checks.rule(x, "fold 1 if one = 2 and week = 0");
        x.force(0);
        CHECKS.due("by the rule in force", x.ahead(2, 1, 0), 3);
        Checks.weeks(x, 1);
        CHECKS.due("so far too", x.ahead(0, 0, 2), 1);
    }

    private static void letsAndCarves() {
        LinenName x = Checks.told(FOUR);
        CHECKS.due("lets(0, 0)", x.lets(0, 0), 13);
        CHECKS.due("lets(-9, 0)", x.lets(-9, 0), 13);
        CHECKS.due("lets(2, 4)", x.lets(2, 4), 4);
        CHECKS.due("lets(1, 4)", x.lets(1, 4), 2);
        CHECKS.due("lets(2, 100)", x.lets(2, 100), 6);
        CHECKS.due("lets(4, 1)", x.lets(4, 1), -1);
        CHECKS.due("lets(-1, 1)", x.lets(-1, 1), -1);
        CHECKS.due("lets(0, 101)", x.lets(0, 101), -1);
        CHECKS.due("lets(0, -1)", x.lets(0, -1), -1);
        CHECKS.due("carves(1, 0)", x.carves(1, 0), 0);
        CHECKS.due("carves(1, 1)", x.carves(1, 1), 1);
        CHECKS.due("carves(4, 0)", x.carves(4, 0), 2);
        CHECKS.due("carves(4, 1)", x.carves(4, 1), 4);
        CHECKS.due("carves(60, 1)", x.carves(60, 1), 6);
        Checks.weeks(x, 3);
        CHECKS.due("from now on", x.lets(2, 4), 3);
        CHECKS.due("carved from now on", x.carves(4, 1), 3);
        CHECKS.due("carves(0, 0)", x.carves(0, 0), -1);
        CHECKS.due("carves(61, 0)", x.carves(61, 0), -1);
        CHECKS.due("carves(1, 2)", x.carves(1, 2), -1);
        CHECKS.due("carves(1, -1)", x.carves(1, -1), -1);
        LinenName y = Checks.told("house 1 0;lodger 0 9;lodger 0 9");
        CHECKS.due("nobody is let", y.carves(5, 0), 0);
        CHECKS.due("not once", y.carves(5, 1), 0);
    }

    private static void rings() {
        LinenName x = Checks.told(FOUR);
        CHECKS.due("right at home", x.right(0), 0);
        CHECKS.due("right(1) at home", x.right(1), -2);
        CHECKS.due("right(2) at home", x.right(2), -2);
        CHECKS.due("even at home", x.even(), 1);
        Checks.weeks(x, 2);
        CHECKS.due("ring(0, 0)", x.ring(0, 0), 3);
        CHECKS.due("ring(0, 1)", x.ring(0, 1), 7);
        CHECKS.due("ring(2, 1)", x.ring(2, 1), 7);
        CHECKS.due("ring(3, 0)", x.ring(3, 0), 1);
        CHECKS.due("ring(3, 1)", x.ring(3, 1), 8);
        CHECKS.due("ring(4, 0)", x.ring(4, 0), -1);
        CHECKS.due("ring(-1, 0)", x.ring(-1, 0), -1);
        CHECKS.due("ring(0, 2)", x.ring(0, 2), -1);
        CHECKS.due("ring(0, -1)", x.ring(0, -1), -1);
        CHECKS.due("right(0)", x.right(0), 2);
        CHECKS.due("right(1)", x.right(1), 0);
        CHECKS.due("right(2)", x.right(2), 2);
        CHECKS.due("right(3)", x.right(3), -1);
        CHECKS.due("right(-1)", x.right(-1), -1);
        CHECKS.due("even()", x.even(), 1);
        x.swap(0, 2);
        CHECKS.due("right(0) then", x.right(0), 1);
        CHECKS.due("right(1) then", x.right(1), 1);
        CHECKS.due("right(2) then", x.right(2), 2);
        CHECKS.due("odd", x.even(), 0);
        LinenName y = Checks.told("house 1 0" + ";lodger 0 0".repeat(7));
        for (int i = 0; i < 6; i++) {
            y.swap(i, i + 1);
        }
        CHECKS.due("a ring of seven", y.ring(6, 0), 7);
        CHECKS.due("all of them", y.ring(6, 1), 127);
        CHECKS.due("six changes", y.right(0), 6);
        CHECKS.due("nearer by any two", y.nearer(0), 21);
    }

    private static void mosts() {
        LinenName x = Checks.told(FOUR);
        int[] order = {0, 2, 1, 3, -2, -2, -2};
        CHECKS.due("most(NONE)", x.most(-1), 4);
        for (int bed = 0; bed < 7; bed++) {
            CHECKS.due("most(" + bed + ")", x.most(bed), order[bed]);
        }
        CHECKS.due("most(7)", x.most(7), -3);
        CHECKS.due("most(-2)", x.most(-2), -3);
        LinenName y = Checks.told("house 9 0;lodger 1 9;lodger 9 20;lodger 5 9");
        CHECKS.due("one at most", y.most(-1), 1);
        CHECKS.due("the first order, bed 0", y.most(0), 0);
        CHECKS.due("the first order, bed 1", y.most(1), 2);
        CHECKS.due("the first order, bed 2", y.most(2), 1);
        y.swap(0, 2);
        CHECKS.due("by any order from anywhere", y.most(1), 2);
    }

    private static void tolds() {
        LinenName x = Checks.told(FOUR);
        int[][] order = {{0, 1, 2, 3}, {0, 2, 1, 3}, {0, 2, 1, 3}};
        int[] sets = {0, 2, 15};
        int[] fewest = {0, 1, 1};
        for (int i = 0; i < 3; i++) {
            CHECKS.due("told(" + sets[i] + ", NONE)", x.told(sets[i], -1), fewest[i]);
            for (int bed = 0; bed < 4; bed++) {
                CHECKS.due("told(" + sets[i] + ", " + bed + ")", x.told(sets[i], bed), order[i][bed]);
            }
            CHECKS.due("told(" + sets[i] + ", 4)", x.told(sets[i], 4), -2);
        }
        int[][] wrong = {{16, 0}, {-1, 0}, {0, 7}, {0, -2}, {FAR, 0}, {NEAR, -1}};
        for (int[] w : wrong) {
            CHECKS.due("told(" + w[0] + ", " + w[1] + ")", x.told(w[0], w[1]), -3);
        }
        x.swap(0, 1);
        x.swap(1, 3);
        // beds have 1, 3, 2, 0; 0 and 1 want 8 and 9, so that each must have 0 or 2
        CHECKS.due("from how it is now", x.told(3, -1), 2);
        CHECKS.due("the first of two changes", x.told(3, 0), 0);
        CHECKS.due("and its second bed", x.told(3, 1), 2);
        CHECKS.due("and its third", x.told(3, 2), 3);
        CHECKS.due("and its last", x.told(3, 3), 1);
        LinenName z = Checks.told("house 9 0;lodger 1 9" + ";lodger 1 1".repeat(5) + ";lodger 9 1");
        CHECKS.due("the last bed of seven", z.told(1, 6), 0);
        CHECKS.due("a set of seven", z.told(127, -1), 1);
        CHECKS.due("an eighth", z.told(128, -1), -3);
        LinenName y = Checks.told("house 9 0;lodger 1 9;lodger 9 20;lodger 5 9");
        CHECKS.due("by none", y.told(2, -1), -2);
        CHECKS.due("by none, a bed", y.told(2, 0), -2);
        CHECKS.due("by none, two for one sheet", y.told(5, -1), -2);
        CHECKS.due("by one", y.told(4, -1), 1);
        CHECKS.due("without wishes", y.told(0, 2), 2);
    }

    private static void pairs() {
        LinenName x = Checks.told(FOUR);
        CHECKS.due("twos(0)", x.twos(0), 0);
        CHECKS.due("twos(1)", x.twos(1), -2);
        CHECKS.due("twos(2)", x.twos(2), -2);
        CHECKS.due("twos(3)", x.twos(3), -1);
        CHECKS.due("twos(-1)", x.twos(-1), -1);
        CHECKS.due("nearer(0) at home", x.nearer(0), 0);
        CHECKS.due("nearer(1) at home", x.nearer(1), -2);
        CHECKS.due("nearer(2) at home", x.nearer(2), -2);
        x.swap(1, 3);
        CHECKS.due("nearer(0)", x.nearer(0), 1);
        CHECKS.due("nearer(1)", x.nearer(1), 1);
        CHECKS.due("nearer(2)", x.nearer(2), 3);
        CHECKS.due("one has less by it", x.twos(0), 0);
        CHECKS.due("none such", x.twos(1), -2);
        x.swap(2, 3);
        CHECKS.due("nearer(0) in a ring of three", x.nearer(0), 3);
        CHECKS.due("nearer(2) in it", x.nearer(2), 2);
        CHECKS.due("nearer(3)", x.nearer(3), -1);
        CHECKS.due("nearer(-1)", x.nearer(-1), -1);
    }

    private static void turnings() {
        LinenName x = Checks.told(FOUR);
        CHECKS.due("turned(0)", x.turned(0), 2);
        CHECKS.due("thin() of all new", x.thin(), 0);
        Checks.weeks(x, 2);
        x.darn(0);
        CHECKS.due("a darned one", x.turned(0), 4);
        CHECKS.due("one that is not", x.turned(1), 2);
        CHECKS.due("thin()", x.thin(), 1);
        x.week();
        CHECKS.due("turned again", x.turned(1), 5);
        CHECKS.due("thin() then", x.thin(), 0);
        CHECKS.due("turned(4)", x.turned(4), -1);
        CHECKS.due("turned(-1)", x.turned(-1), -1);
        LinenName y = Checks.told("house 1 0;lodger 3 3");
        y.week();
        CHECKS.due("each week", y.turned(0), 1);
    }

    private static void homes() {
        LinenName x = Checks.told("house 30 0;lodger 1 1;lodger 1 1;mix 0 0 1;mix 5 0 1", "fold 1 if week = 98", "fold 1 if week = 99");
        x.force(LinenName.NONE);
        CHECKS.due("home now", x.home(), 0);
        x.week();
        CHECKS.due("home behind week 5", x.home(), 6);
        Checks.house(x, "house 30 0;lodger 1 1;lodger 1 1");
        x.swap(0, 1);
        CHECKS.due("never", x.home(), -2);
        x.force(0);
        CHECKS.due("the last of a hundred", x.home(), 99);
        x.force(1);
        CHECKS.due("one too late", x.home(), -2);
        x.week();
        CHECKS.due("a week on", x.home(), 100);
        CHECKS.due("nothing changes", x.count(6), 1);
    }

    private static void locks() {
        LinenName x = Checks.told(FOUR);
        CHECKS.due("lock(3, 0)", x.lock(3, 0), 0);
        CHECKS.due("lock(3, 1)", x.lock(3, 1), 11);
        CHECKS.due("of several none", x.lock(1, 0), -1);
        CHECKS.due("as often as without", x.lock(1, 1), 3);
        CHECKS.due("lock(0, 0)", x.lock(0, 0), -2);
        CHECKS.due("lock(61, 0)", x.lock(61, 0), -2);
        CHECKS.due("lock(1, 2)", x.lock(1, 2), -2);
        CHECKS.due("lock(1, -1)", x.lock(1, -1), -2);
        // the rule is not asked of a bed that is locked, and takes the next best
        LinenName y = Checks.told("house 30 0;lodger 9 9;lodger 0 0;lodger 0 0", "fold 3-one-other if week = 0");
        CHECKS.due("the first one locked", y.lock(2, 0), 0);
        CHECKS.due("all let", y.lock(2, 1), 6);
        LinenName z = Checks.told("house 30 0;lodger 0 9;lodger 9 0;lodger 9 0", "fold 3*other-one-other if other < 2;fold 1 if one = 0");
        CHECKS.due("bed 1 locked, bed 2 changed", z.lock(1, 1), 3);
        CHECKS.due("none is as good", z.lock(1, 0), -1);
    }

    private static void pennies() {
        LinenName x = Checks.told(FOUR);
        CHECKS.due("nobody was", x.pence(100, 0), 0);
        Checks.weeks(x, 4);
        int[][] want = {{100, 10, 20, 40, 30}, {7, 1, 1, 3, 2}, {0, 0, 0, 0, 0}, {1, 0, 0, 1, 0}, {9999, 1000, 2000, 3999, 3000}};
        for (int[] w : want) {
            for (int lodger = 0; lodger < 4; lodger++) {
                CHECKS.due("pence(" + w[0] + ", " + lodger + ")", x.pence(w[0], lodger), w[lodger + 1]);
            }
        }
        int[][] wrong = {{-1, 0}, {10000, 0}, {1, 4}, {1, -1}, {FAR, 0}, {1, FAR}};
        for (int[] w : wrong) {
            CHECKS.due("pence(" + w[0] + ", " + w[1] + ")", x.pence(w[0], w[1]), -1);
        }
        LinenName y = Checks.told("house 9 0;lodger 1 9;lodger 1 1;lodger 1 1;lodger 1 1");
        y.week();
        int[] alike = {0, 1, 1, 0};
        for (int lodger = 0; lodger < 4; lodger++) {
            CHECKS.due("of several the least, " + lodger, y.pence(2, lodger), alike[lodger]);
        }
    }

    private static void games() {
        LinenName x = Checks.told("house 9 0;lodger 3 0;lodger 8 0");
        int[][] want = {{0, 1, 1, 5, 0, 1}, {0, 1, 2, -5, -1, -1}, {0, 1, 3, 5, -1, -1}, {1, 0, 1, 5, -1, -1}, {1, 0, 2, -5, -1, -1}};
        for (int[] w : want) {
            for (int what = 0; what <= 2; what++) {
                CHECKS.due("game(" + w[0] + ", " + w[1] + ", " + w[2] + ", " + what + ")",
                    x.game(w[0], w[1], w[2], what), w[3 + what]);
            }
        }
        LinenName y = Checks.told(FOUR);
        CHECKS.due("by one change", y.game(1, 0, 1, 0), 6);
        CHECKS.due("its one", y.game(1, 0, 1, 1), 0);
        CHECKS.due("its other", y.game(1, 0, 1, 2), 1);
        // with 15 on 2 and 4 on 1 left so, the second one comes to -11; with 10 on 1 to -6, by 4 on 2
        CHECKS.due("two turns", y.game(2, 1, 2, 0), -6);
        CHECKS.due("the first one's one", y.game(2, 1, 2, 1), 0);
        CHECKS.due("the first one's other", y.game(2, 1, 2, 2), 1);
        CHECKS.due("three turns", y.game(2, 1, 3, 0), 11);
        CHECKS.due("nothing changes", y.count(8), 15);
        int[][] wrong = {{0, 0, 1, 0}, {-1, 0, 1, 0}, {0, 4, 1, 0}, {4, 0, 1, 0}, {0, -1, 1, 0}, {0, 1, 0, 0}, {0, 1, 4, 0}, {0, 1, 1, 3}, {0, 1, 1, -1}};
        for (int[] w : wrong) {
            CHECKS.due("game(" + w[0] + ", " + w[1] + ", " + w[2] + ", " + w[3] + ")", y.game(w[0], w[1], w[2], w[3]), -1000);
        }
    }

    private static LinenName three() {
        return Checks.told("house 30 0;lodger 1 0;lodger 2 0;lodger 3 0", "fold 1", "fold 1 if one=1", "fold 0");
    }

    private static void notes() {
        LinenName x = three();
        CHECKS.due("all without notes", x.ruled(0), 4);
        CHECKS.due("none is the first", x.ruled(1), -1);
        CHECKS.due("note(0, 0, 0)", x.note(0, 0, 0), 1);
        CHECKS.due("all begin so", x.ruled(0), 4);
        CHECKS.due("note(1, 0, 1)", x.note(1, 0, 1), 2);
        CHECKS.due("by rule 0 alone", x.ruled(0), 1);
        CHECKS.due("rule 0", x.ruled(1), 0);
        x.week();
        x.swap(1, 2);
        CHECKS.due("from the begin on", x.ruled(1), 0);
        CHECKS.due("note(2, 0, 0)", x.note(2, 0, 0), 3);
        CHECKS.due("back behind two", x.ruled(1), 0);
        CHECKS.due("note(60, 0, 1)", x.note(60, 0, 1), 4);
        CHECKS.due("not so behind 60", x.ruled(0), 0);
        CHECKS.due("none such", x.ruled(1), -2);
        CHECKS.due("forgotten", x.note(-1, 99, -99), 0);
        CHECKS.due("count(10)", x.count(10), 0);
        CHECKS.due("note(1, 1, 2)", x.note(1, 1, 2), 1);
        CHECKS.due("rule 1", x.ruled(1), 1);
        int[][] wrong = {{-2, 0, 0}, {61, 0, 0}, {0, 3, 0}, {0, 0, 3}, {0, -1, 0}, {0, 0, -1}};
        for (int[] w : wrong) {
            CHECKS.due("note(" + w[0] + ", " + w[1] + ", " + w[2] + ")", x.note(w[0], w[1], w[2]), -2);
        }
        for (int i = 2; i <= 10; i++) {
            CHECKS.due("note " + i, x.note(1, 1, 2), i);
        }
        CHECKS.due("an eleventh", x.note(1, 1, 2), -2);
        CHECKS.due("there are ten", x.count(10), 10);
        CHECKS.due("ruled(2)", x.ruled(2), -3);
        CHECKS.due("ruled(-1)", x.ruled(-1), -3);
        LinenName y = Checks.told("house 1 0;lodger 9 5;lodger 4 2;mix 0 0 1", "fold gradeo-grade", "fold 1");
        y.note(2, 0, 0);
        CHECKS.due("with mixes and turned sheets", y.ruled(0), 1);
        CHECKS.due("rule 0 puts it right", y.ruled(1), 0);
    }

    private static void looks() {
        LinenName x = three();
        CHECKS.due("look(0, 0)", x.look(0, 0), 0);
        CHECKS.due("look(0, 1)", x.look(0, 1), 4);
        CHECKS.due("look(1, 0)", x.look(1, 0), 1);
        CHECKS.due("look(1, 1)", x.look(1, 1), 2);
        CHECKS.due("look(60, 1)", x.look(60, 1), 4);
        x.note(1, 1, 1);
        CHECKS.due("of those that are so", x.look(1, 0), 0);
        CHECKS.due("two alike", x.look(1, 1), 2);
        x.note(1, 0, 1);
        CHECKS.due("none is so", x.look(1, 0), -2);
        LinenName y = three();
        y.note(1, 0, 1);
        CHECKS.due("one is so", y.look(3, 0), 0);
        CHECKS.due("like none but itself", y.look(3, 1), 1);
        CHECKS.due("none is so, how many", x.look(1, 1), -2);
        int[][] wrong = {{-1, 0}, {61, 0}, {1, 2}, {1, -1}};
        for (int[] w : wrong) {
            CHECKS.due("look(" + w[0] + ", " + w[1] + ")", x.look(w[0], w[1]), -1);
        }
    }

    private static void draws() {
        LinenName x = Checks.told(FOUR);
        CHECKS.due("seed(7)", x.seed(7), 0);
        CHECKS.due("seed(-1)", x.seed(-1), -1);
        CHECKS.due("seed(least)", x.seed(NEAR), -1);
        CHECKS.due("seed(most)", x.seed(FAR), 7);
        CHECKS.due("seed(0)", x.seed(0), FAR);
        CHECKS.due("no draw below 0", x.laundries(2, 3, 0, 0), 18);
        CHECKS.due("home then", x.laundries(2, 3, 0, 1), 2);
        CHECKS.due("x as it was", x.count(12), 0);
        CHECKS.due("nothing stays", x.count(6), 0);
        int[][] wrong = {{0, 1, 0, 0}, {11, 1, 0, 0}, {1, 0, 0, 0}, {1, 61, 0, 0}, {1, 1, -1, 0}, {1, 1, 101, 0}, {1, 1, 0, 2}, {1, 1, 0, -1}};
        for (int[] w : wrong) {
            CHECKS.due("laundries(" + w[0] + ", " + w[1] + ", " + w[2] + ", " + w[3] + ")",
                x.laundries(w[0], w[1], w[2], w[3]), -1);
        }
        LinenName y = Checks.told("house 30 0;lodger 5 1");
        CHECKS.due("alone", y.laundries(10, 60, 100, 0), 600);
        CHECKS.due("alone at home", y.laundries(10, 60, 100, 1), 10);
        LinenName z = Checks.told("house 30 0;lodger 9 9;lodger 0 0");
        CHECKS.due("changed each week", z.laundries(3, 1, 100, 1), 0);
        CHECKS.due("and back", z.laundries(3, 2, 100, 1), 6);
        CHECKS.due("let but for the lodger who wants 9", z.laundries(3, 2, 100, 0), 9);
        drawnByHand();
    }

    /** From x 0 the draws are 0, 21468, 9988, 22117, 3498, 16927, ..: taken from the recurrence by hand. */
    private static void drawnByHand() {
        LinenName x = Checks.told("house 30 0;lodger 1 1;lodger 2 2;lodger 3 3;lodger 4 4;lodger 5 5");
        // 0 is below 1; bed 21468 mod 5 = 3, 9988 mod 4 = 0 and one: bed 4; 22117 mod 100 = 17 is not below 1
        CHECKS.due("one change, let", x.laundries(1, 1, 1, 0), 4);
        CHECKS.due("one change, home", x.laundries(1, 1, 1, 1), 3);
        CHECKS.due("no second change", x.laundries(1, 2, 1, 1), 3);
        // 17 is below 18; 3498 mod 5 = 3, 16927 mod 4 = 3 and one: 3 + 4 = 7, behind the last the first: bed 2
        CHECKS.due("a second change", x.laundries(1, 2, 18, 1), 2);
        CHECKS.due("the draws go on the second time", x.laundries(2, 1, 18, 1), 6);
        CHECKS.due("and let", x.laundries(2, 1, 18, 0), 8);
        x.seed(12345);
        CHECKS.due("one draw further", x.laundries(1, 1, 1, 1), 5);
    }

    private static void emptyHouse() {
        LinenName x = Checks.told(EMPTY);
        CHECKS.due("lets", x.lets(0, 0), 0);
        CHECKS.due("lets of one", x.lets(0, 1), -1);
        CHECKS.due("right", x.right(0), 0);
        CHECKS.due("right(1)", x.right(1), -2);
        CHECKS.due("even", x.even(), 1);
        CHECKS.due("most", x.most(-1), 0);
        CHECKS.due("most(0)", x.most(0), -2);
        CHECKS.due("told", x.told(0, -1), 0);
        CHECKS.due("told(0, 0)", x.told(0, 0), -2);
        CHECKS.due("told(1, 0)", x.told(1, 0), -3);
        CHECKS.due("twos", x.twos(0), 0);
        CHECKS.due("thin", x.thin(), -2);
        CHECKS.due("home", x.home(), 0);
        CHECKS.due("carves", x.carves(1, 0), -2);
        CHECKS.due("carves(1, 1)", x.carves(1, 1), 0);
        CHECKS.due("nearer", x.nearer(1), -2);
        CHECKS.due("lock", x.lock(1, 0), -1);
        CHECKS.due("lock(1, 1)", x.lock(1, 1), 0);
        CHECKS.due("ruled", x.ruled(0), 1);
        CHECKS.due("look", x.look(0, 0), -2);
        CHECKS.due("look(0, 1)", x.look(0, 1), -2);
        CHECKS.due("laundries", x.laundries(1, 1, 100, 0), 0);
    }

    private static void withoutHouse() {
        LinenName x = new LinenName();
        CHECKS.due("ahead", x.ahead(0, 0, 0), -1);
        CHECKS.due("lets", x.lets(0, 0), -1);
        CHECKS.due("ring", x.ring(0, 0), -1);
        CHECKS.due("right", x.right(0), -1);
        CHECKS.due("even", x.even(), -1);
        CHECKS.due("most", x.most(-1), -3);
        CHECKS.due("told", x.told(0, -1), -3);
        CHECKS.due("twos", x.twos(0), -1);
        CHECKS.due("turned", x.turned(0), -1);
        CHECKS.due("thin", x.thin(), -1);
        CHECKS.due("home", x.home(), -1);
        CHECKS.due("carves", x.carves(1, 0), -1);
        CHECKS.due("nearer", x.nearer(0), -1);
        CHECKS.due("lock", x.lock(1, 0), -2);
        CHECKS.due("pence", x.pence(1, 0), -1);
        CHECKS.due("game", x.game(0, 1, 1, 0), -1000);
        CHECKS.due("note", x.note(0, 0, 0), -2);
        CHECKS.due("note(NONE)", x.note(-1, 0, 0), 0);
        CHECKS.due("ruled", x.ruled(0), -3);
        CHECKS.due("look", x.look(0, 0), -1);
        CHECKS.due("laundries", x.laundries(1, 1, 0, 0), -1);
        CHECKS.due("seed", x.seed(3), 0);
        CHECKS.due("starch", x.starch(0), -1);
        CHECKS.due("darn", x.darn(0), -1);
    }
}
