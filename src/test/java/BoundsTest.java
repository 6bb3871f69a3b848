/** Parts II and III of the Terms and promises 7 to 37, sentence by sentence: each bound at it and beside it. */
public final class BoundsTest {
    private static final Checks CHECKS = new Checks("BoundsTest");
    private static final int NONE = LinenName.NONE;

    public static void main(String[] args) {
        let();
        ruleOfAWeek();
        orderOfAWeek();
        turning();
        starch();
        darn();
        undo();
        ahead();
        lets();
        rings();
        most();
        told();
        twos();
        turnedAndThin();
        home();
        carves();
        nearer();
        lock();
        pence();
        game();
        notes();
        ruled();
        look();
        draws();
        laundries();
        images();
        counts();
        CHECKS.close();
    }

    private static void due(String sentence, long got, long want) {
        CHECKS.due(sentence, got, want);
    }

    /** The sheets on all beds, as digits. */
    private static int order(LinenName x) {
        int order = 0;
        for (int bed = 0; bed < x.count(2); bed++) {
            order = order * 10 + x.lodger(bed, 1);
        }
        return order;
    }

    // Part II.

    private static void let() {
        LinenName x = Checks.told("house 30 1;lodger 0 0;lodger 20 20;lodger 6 7;lodger 8 7;lodger 7 7");
        int[] want = {1, 1, 0, 1, 1};
        for (int i = 0; i < 5; i++) {
            due("GRADE is what they WANT or more, lodger " + i, x.lodger(i, 2), want[i]);
        }
        due("who is LET, as bits", x.week(), 1 + 2 + 8 + 16);
        x.starch(2);
        due("LET by one GRADE more", x.lodger(2, 2), 1);
        x.swap(2, 0);
        due("of the SHEET on their BED", x.lodger(2, 2), 0);
        due("how often they were, not now", x.lodger(1, 3), 1);
    }

    private static void ruleOfAWeek() {
        String three = "house 30 0;lodger 1 1;lodger 1 1;lodger 1 1";
        String[] rules = {"fold 1", "fold 0", "fold 0-1", "fold other", "fold other if one=1", "fold one", "fold 9 if one=9",
            "fold other-one", "fold 3-other", "fold 1 if other=2", "fold 100-one*10-other"};
        int[] want = {102, 12, 12, 210, 21, 21, 12, 210, 102, 210, 102};
        for (int i = 0; i < rules.length; i++) {
            LinenName x = Checks.told(three, rules[i]);
            x.week();
            due(rules[i], order(x), want[i]);
        }
        LinenName y = Checks.told(three);
        y.week();
        due("without a RULE none", order(y), 12);
        LinenName one = Checks.told("house 30 0;lodger 1 1", "fold 1");
        due("one BED alone is changed with none", one.week(), 1);
        due("and has its own", one.count(8), 1);
        LinenName none = Checks.told("house 30 0", "fold 1");
        due("no BEDS", none.week(), 0);
        // the greatest of sums beyond 32 bits, and of those above 0 alone
        LinenName far = Checks.told(three, "fold 65536*65536*other if one=0;fold 1 if one=1");
        far.week();
        due("sums of 64 bits", order(far), 210);
        LinenName least = Checks.told(three, "fold 65536*65536*65536*32768 if other=2;fold 1 if other=1");
        least.week();
        due("the least number is below 0", order(least), 102);
    }

    private static void orderOfAWeek() {
        // the mixes come first, so that home and lets are those behind them
        LinenName x = Checks.told("house 30 0;lodger 9 9;lodger 1 1;mix 0 0 1", "fold 1 if home=0 and lets=1 and grade=1");
        due("by how all is then", x.week(), 3);
        due("the rule has changed it", x.count(8), 3);
        // who is let is seen behind the rule and ahead of the turning
        LinenName y = Checks.told("house 1 0;lodger 9 0;lodger 1 9", "fold 1 if week=0");
        due("let behind the rule, ahead of the turning", y.week(), 3);
        due("turned then", y.sheet(0, 0), 4);
        due("not let now", y.lodger(1, 2), 0);
        due("was let once", y.lodger(1, 3), 1);
        // was and week in a rule are those of weeks that have passed
        LinenName z = Checks.told("house 30 0;lodger 9 9;lodger 1 1", "fold 1 if was=2 and week=2");
        Checks.weeks(z, 2);
        due("not yet", z.count(8), 3);
        due("in the third week", z.week(), 2);
    }

    private static void turning() {
        LinenName x = Checks.told("house 1 9;lodger 20 0;lodger 0 0;lodger 1 0");
        int[] half = {10, 5, 2, 1, 0, 0};
        for (int grade : half) {
            x.week();
            due("GRADE half, downwards", x.sheet(0, 0), grade);
            due("WORN 0", x.sheet(0, 1), 0);
            due("0 stays 0", x.sheet(1, 0), 0);
            due("1 becomes 0", x.sheet(2, 0), 0);
        }
        LinenName y = Checks.told("house 30 9;lodger 19 0");
        Checks.weeks(y, 29);
        due("WORN 29 of 30", y.sheet(0, 1), 29);
        due("not turned", y.sheet(0, 0), 19);
        y.week();
        due("WORN LASTS is turned", y.sheet(0, 0), 9);
        due("WORN 0", y.sheet(0, 1), 0);
        due("WEEK is 1 more", y.count(6), 30);
        LinenName z = Checks.told("house 2 9;lodger 20 0");
        for (int i = 0; i < 9; i++) {
            z.starch(0);
        }
        Checks.weeks(z, 2);
        due("half of 99", z.sheet(0, 0), 49);
        // a sheet is worn wherever it lies
        LinenName v = Checks.told("house 3 0;lodger 8 0;lodger 6 0");
        v.week();
        v.darn(1);
        v.swap(0, 1);
        Checks.weeks(v, 2);
        due("sheet 0 is turned on bed 1", v.sheet(0, 0) * 10 + v.sheet(0, 1), 40);
        due("sheet 1 on bed 0 is not", v.sheet(1, 0) * 10 + v.sheet(1, 1), 62);
    }

    // The acts.

    private static void starch() {
        LinenName x = Checks.told("house 30 9;lodger 18 0;lodger 19 0");
        for (int i = 1; i <= 9; i++) {
            due("STARCH more GRADE", x.starch(0), 18 + 9 * i);
        }
        due("99 is reached by it", x.sheet(0, 0), 99);
        due("99 at most", x.starch(0), 99);
        for (int i = 0; i < 8; i++) {
            x.starch(1);
        }
        due("91", x.sheet(1, 0), 91);
        due("99 and not 100", x.starch(1), 99);
        x.undo();
        due("undone", x.sheet(1, 0), 91);
        LinenName y = Checks.told("house 30 1;lodger 5 5");
        due("by 1", y.starch(0), 6);
        LinenName z = Checks.told("house 30 0;lodger 5 5");
        due("STARCH is 0", z.starch(0), -1);
        due("nothing happens", z.sheet(0, 0) * 10 + z.count(11), 50);
    }

    private static void darn() {
        LinenName x = Checks.told("house 2 0;lodger 8 0;lodger 8 0");
        due("a new one is not WORN", x.darn(0), -1);
        due("no act", x.count(11), 0);
        x.week();
        due("how it was WORN", x.darn(0), 1);
        due("is WORN 0", x.sheet(0, 1), 0);
        due("an act", x.count(11), 2);
        due("not WORN then", x.darn(0), -1);
        x.week();
        due("one that was turned is not WORN", x.darn(1), -1);
        due("GRADE of the darned one", x.sheet(0, 0), 8);
        due("GRADE of the other", x.sheet(1, 0), 4);
        LinenName y = Checks.told("house 30 0;lodger 8 0");
        Checks.weeks(y, 29);
        due("WORN 29", y.darn(0), 29);
        LinenName z = Checks.told("house 1 0;lodger 8 0");
        z.week();
        due("with LASTS 1 none is ever WORN", z.darn(0), -1);
    }

    private static void undo() {
        LinenName x = Checks.told("house 30 5;lodger 1 1;lodger 2 2");
        due("none can", x.undo(), -1);
        for (int i = 1; i <= 19; i++) {
            x.week();
        }
        due("19", x.count(11), 19);
        x.swap(0, 1);
        due("20", x.count(11), 20);
        x.starch(0);
        due("the last 20", x.count(11), 20);
        due("the last first: GRADE", x.undo() * 10 + x.sheet(0, 0), 191);
        due("then the SWAP", x.undo() * 10 + x.count(8), 183);
        for (int left = 17; left >= 0; left--) {
            due("how many more can be", x.undo(), left);
        }
        due("none can", x.undo(), -1);
        due("the first WEEK can't be", x.count(6), 1);
        x.swap(0, 1);
        due("one act more", x.count(11), 1);
        due("undone", x.undo(), 0);
        due("each on its own", x.count(8), 3);
        due("what can't be is no act", x.swap(0, 0) + x.starch(9) + x.darn(9) + x.count(11), -3);
    }

    // Part III.

    private static void ahead() {
        LinenName x = Checks.told("house 30 0;lodger 20 1;lodger 8 8;lodger 5 9;mix 60 1 2", "fold 1 if week%7=3");
        LinenName y = Checks.told("house 30 0;lodger 20 1;lodger 8 8;lodger 5 9;mix 60 1 2", "fold 1 if week%7=3");
        Checks.weeks(x, 2);
        Checks.weeks(y, 2);
        for (int n = 0; n <= 100; n++) {
            for (int i = 0; i < 3; i++) {
                due("AHEAD " + n + ", SHEET on " + i, x.ahead(i, n, 0), y.lodger(i, 1));
                due("AHEAD " + n + ", GRADE of " + i, x.ahead(i, n, 1), y.sheet(i, 0));
                due("AHEAD " + n + ", how often " + i, x.ahead(i, n, 2), y.lodger(i, 3));
            }
            y.week();
        }
        due("101", x.ahead(0, 101, 0), -1);
        due("-1", x.ahead(0, -1, 0), -1);
        due("WEEK stays", x.count(6), 2);
    }

    private static void lets() {
        LinenName x = Checks.told("house 30 0;lodger 20 3;lodger 0 1");
        due("n 0: who, lodger is not asked", x.lets(99, 0), 1);
        due("n 0, lodger below 0", x.lets(Integer.MIN_VALUE, 0), 1);
        due("n 1", x.lets(0, 1), 1);
        due("n 60: 20 and 10", x.lets(0, 60), 60);
        due("n 90: 20, 10, 5", x.lets(0, 90), 90);
        due("n 91: 2 is less than 3", x.lets(0, 91), 90);
        due("n 100", x.lets(0, 100), 90);
        due("n 101", x.lets(0, 101), -1);
        due("never", x.lets(1, 100), 0);
        x.week();
        due("of these weeks, not so far", x.lets(0, 100), 89);
    }

    private static void rings() {
        LinenName x = Checks.told("house 30 0" + ";lodger 1 1".repeat(7));
        due("alone", x.ring(6, 0) * 1000 + x.ring(6, 1), 1064);
        due("RIGHT of none", x.right(0), 0);
        due("all is", x.right(1) * 10 + x.right(2), -22);
        due("none is even", x.even(), 1);
        x.swap(0, 6);
        due("a ring of two", x.ring(0, 0) * 1000 + x.ring(6, 1), 2065);
        due("one change", x.right(0), 1);
        due("the least BED that has another one's SHEET", x.right(1), 0);
        due("the BED on which its own lies", x.right(2), 6);
        due("one is not even", x.even(), 0);
        x.swap(2, 4);
        due("two rings", x.right(0), 2);
        due("two are even", x.even(), 1);
        x.swap(4, 5);
        // bed 2 has 4, 4 has 5, 5 has 2
        due("a ring of three", x.ring(5, 0) * 1000 + x.ring(5, 1), 3052);
        due("three changes", x.right(0) * 10 + x.even(), 30);
        x.swap(0, 6);
        due("the least is 2 then", x.right(1), 2);
        due("its own lies on 5", x.right(2), 5);
        x.swap(2, 5);
        due("each change of these puts one right", x.right(0), 1);
        due("sheet 2 at home", x.lodger(2, 1), 2);
        LinenName y = Checks.told("house 30 0;lodger 1 1");
        due("one BED", y.ring(0, 0) * 10 + y.ring(0, 1), 11);
    }

    private static void most() {
        LinenName x = Checks.told("house 30 0;lodger 5 20;lodger 5 20;lodger 5 20");
        due("nobody can be", x.most(NONE), 0);
        due("the first order of all", x.most(0) * 100 + x.most(1) * 10 + x.most(2), 12);
        x.swap(0, 2);
        due("not from how it is", x.most(0) * 100 + x.most(1) * 10 + x.most(2), 12);
        LinenName y = Checks.told("house 30 0;lodger 3 1;lodger 2 2;lodger 1 3");
        due("all can be", y.most(NONE), 3);
        due("by the one order", y.most(0) * 100 + y.most(1) * 10 + y.most(2), 210);
        LinenName z = Checks.told("house 30 0" + ";lodger 4 4".repeat(6) + ";lodger 9 9");
        due("seven", z.most(NONE), 7);
        due("BED 6", z.most(6), 6);
        due("BED 7", z.most(7), -3);
        Checks.house(z, "house 30 0;lodger 3 1;lodger 2 2;lodger 1 3");
        due("three behind seven", z.most(NONE), 3);
        due("their order", z.most(0) * 100 + z.most(1) * 10 + z.most(2), 210);
        Checks.house(z, "house 30 0;lodger 1 9");
        due("one of whom is none", z.most(NONE), 0);
        LinenName v = Checks.told("house 30 0;lodger 9 9;lodger 9 1");
        due("least numbers first", v.most(0) * 10 + v.most(1), 1);
        due("a BED that there is not", v.most(2), -2);
    }

    private static void told() {
        LinenName x = Checks.told("house 30 0;lodger 3 3;lodger 2 3;lodger 3 2");
        x.swap(0, 1);
        due("a set of none, no change", x.told(0, NONE), 0);
        due("the order that is", x.told(0, 0) * 100 + x.told(0, 1) * 10 + x.told(0, 2), 102);
        // beds have 2, 3, 3 by sheets 1, 0, 2; lodger 0 wants 3
        due("by one change", x.told(1, NONE), 1);
        due("the first order with so few", x.told(1, 0) * 100 + x.told(1, 1) * 10 + x.told(1, 2), 12);
        due("both, who want 3", x.told(3, NONE), 1);
        due("sheet 2 to bed 0", x.told(3, 0) * 100 + x.told(3, 1) * 10 + x.told(3, 2), 201);
        due("all", x.told(7, NONE), 1);
        due("those who are let as it is", x.told(6, NONE), 0);
        due("a set beyond", x.told(8, NONE), -3);
        LinenName y = Checks.told("house 30 0;lodger 3 3;lodger 2 3;lodger 1 2");
        due("by none", y.told(7, NONE), -2);
        due("by none, of a BED", y.told(7, 0), -2);
        due("by none, of a BED that there is not", y.told(7, 6), -2);
        due("wrong all the same", y.told(7, 7), -3);
        LinenName z = Checks.told("house 30 0" + ";lodger 1 1;lodger 2 2;lodger 3 3".repeat(2) + ";lodger 4 4");
        for (int i = 0; i < 6; i++) {
            z.swap(i, i + 1);
        }
        due("a ring of seven, all told", z.told(127, NONE), 5);
    }

    private static void twos() {
        LinenName x = Checks.told("house 30 0;lodger 5 9;lodger 9 5;lodger 0 20");
        due("who has more takes it from the other", x.twos(0), 0);
        due("there is none", x.twos(1) * 10 + x.twos(2), -22);
        due("others", x.twos(3) * 10 + x.twos(-1), -11);
    }

    private static void turnedAndThin() {
        LinenName x = Checks.told("house 3 0;lodger 8 0;lodger 8 0;lodger 8 0");
        due("the third week", x.turned(0), 2);
        due("of several the least", x.thin(), 0);
        Checks.weeks(x, 2);
        due("this one", x.turned(2), 2);
        x.darn(0);
        x.darn(2);
        due("later", x.turned(0), 4);
        due("the one that is turned first", x.thin(), 1);
        x.week();
        due("turned behind this WEEK", x.turned(1), 5);
        due("the other two are first, the least", x.thin(), 0);
        LinenName y = Checks.told("house 30 0;lodger 8 0");
        due("30 weeks", y.turned(0), 29);
        LinenName z = Checks.told("house 1 0;lodger 8 0");
        due("each WEEK", z.turned(0), 0);
    }

    private static void home() {
        String two = "house 30 0;lodger 1 1;lodger 1 1";
        LinenName x = Checks.told(two, "fold 1 if week=98", "fold 1 if week=99");
        due("this one the first", x.home(), 0);
        x.swap(0, 1);
        due("at the begin of the 100th", x.home(), 99);
        x.force(1);
        due("not of 100", x.home(), -2);
        x.week();
        due("of 100 from now on", x.home(), 100);
        x.force(NONE);
        due("at none of these", x.home(), -2);
        x.swap(1, 0);
        due("this one, WEEK 1", x.home(), 1);
        LinenName y = Checks.told(two + ";mix 0 0 1;mix 2 0 1");
        due("at the begin, ahead of the mixes", y.home(), 0);
        y.week();
        due("at the begin of WEEK 3", y.home(), 3);
    }

    private static void carves() {
        LinenName x = Checks.told("house 20 0;lodger 8 5;lodger 9 5;lodger 20 5");
        due("of several the least", x.carves(1, 0), 0);
        due("once", x.carves(1, 1), 1);
        due("20 weeks", x.carves(20, 0) * 100 + x.carves(20, 1), 20);
        due("the 21st", x.carves(21, 0) * 100 + x.carves(21, 1), 221);
        due("60 weeks", x.carves(60, 0) * 100 + x.carves(60, 1), 260);
        due("61", x.carves(61, 0), -1);
        due("0", x.carves(0, 1), -1);
        Checks.weeks(x, 40);
        due("in these, not so far", x.carves(60, 1), 20);
    }

    private static void nearer() {
        LinenName x = Checks.told("house 30 0;lodger 1 1;lodger 1 1;lodger 1 1;lodger 1 1");
        due("none", x.nearer(0) * 100 + x.nearer(1) * 10 + x.nearer(2), -22);
        x.swap(2, 3);
        due("one", x.nearer(0) * 100 + x.nearer(1) * 10 + x.nearer(2), 123);
        x.swap(0, 1);
        due("two, the first", x.nearer(0) * 100 + x.nearer(1) * 10 + x.nearer(2), 201);
        x.swap(0, 3);
        due("a ring of four", x.nearer(0) * 100 + x.nearer(1) * 10 + x.nearer(2), 601);
    }

    private static void lock() {
        // without a change all are let; any lock lets as many: none is ahead
        LinenName x = Checks.told("house 30 0;lodger 9 9;lodger 1 1");
        due("of several none", x.lock(60, 0), NONE);
        due("how often: turned behind 30, nobody is let", x.lock(60, 1), 60);
        due("1 week", x.lock(1, 1), 2);
        due("61", x.lock(61, 1), -2);
        due("0", x.lock(0, 1), -2);
        // the mix is undone by either lock: then the least
        LinenName y = Checks.told("house 30 0;lodger 1 0;lodger 9 9;lodger 1 1;mix 0 1 2");
        due("then the least", y.lock(2, 0), 1);
        due("all in both", y.lock(2, 1), 6);
        due("nothing is locked by asking", y.week(), 1 + 4);
        due("in these, not so far", y.lock(2, 1), 4);
        // the rule would take 0 and 1 and is not asked of them, so that it takes 0 and 2, or 1 and 2
        LinenName z = Checks.told("house 30 0;lodger 5 5;lodger 0 0;lodger 0 0", "fold 9-one-other if week=0 or week=1");
        due("bed 0 locked, the others may change", z.lock(2, 0), 0);
        due("bed 0 locked, all let", z.lock(2, 1), 6);
        // the lock is for the changes, the sheet is worn and turned all the same
        LinenName v = Checks.told("house 1 0;lodger 9 9;lodger 0 0", "fold 1");
        due("let once", v.lock(2, 1), 3);
        due("by the lock of 0", v.lock(2, 0), 0);
    }

    private static void pence() {
        LinenName x = Checks.told("house 30 0;lodger 1 1;lodger 1 1;lodger 1 1;lodger 1 9");
        due("nothing, if nobody was", x.pence(9999, 0) + x.pence(9999, 3), 0);
        x.week();
        int[][] want = {{0, 0, 0, 0}, {1, 1, 0, 0}, {2, 1, 1, 0}, {3, 1, 1, 1}, {4, 2, 1, 1}, {9998, 3333, 3333, 3332}, {9999, 3333, 3333, 3333}};
        for (int[] w : want) {
            for (int i = 0; i < 3; i++) {
                due("PENCE " + w[0] + " of " + i, x.pence(w[0], i), w[i + 1]);
            }
            due("who was not let has nothing", x.pence(w[0], 3), 0);
        }
        due("10000", x.pence(10000, 0), -1);
        due("-1", x.pence(-1, 0), -1);
        LinenName y = Checks.told("house 1 0;lodger 1 1;lodger 0 0");
        Checks.weeks(y, 2);
        due("let once and twice", y.lodger(0, 3) * 10 + y.lodger(1, 3), 12);
        due("whose part lost most: 2/3", y.pence(1, 1), 1);
        due("1/3", y.pence(1, 0), 0);
        due("of 2: 2/3 and 1 1/3", y.pence(2, 0) * 10 + y.pence(2, 1), 11);
        due("of 3", y.pence(3, 0) * 10 + y.pence(3, 1), 12);
        LinenName z = Checks.told("house 30 0" + ";lodger 1 1".repeat(7));
        z.week();
        int[] seven = {1429, 1429, 1429, 1428, 1428, 1428, 1428};
        for (int i = 0; i < 7; i++) {
            due("of seven, lodger " + i, z.pence(9999, i), seven[i]);
        }
    }

    private static void game() {
        LinenName x = Checks.told("house 30 0;lodger 4 0;lodger 9 0;lodger 2 0");
        // one turn: 0 takes 9 from 1, 9 less 4
        due("1 turn", x.game(0, 1, 1, 0), 5);
        due("its BEDS", x.game(0, 1, 1, 1) * 10 + x.game(0, 1, 1, 2), 1);
        due("0 turns", x.game(0, 1, 0, 0), -1000);
        due("4 turns", x.game(0, 1, 4, 0), -1000);
        // none is the best already: 1 has 9, 2 has 2
        due("none ahead of all", x.game(1, 2, 1, 0), 7);
        due("told as NONE", x.game(1, 2, 1, 1) * 10 + x.game(1, 2, 1, 2), -11);
        // alike whatever is done: none
        LinenName y = Checks.told("house 30 0;lodger 4 0;lodger 4 0");
        due("0", y.game(0, 1, 3, 0), 0);
        due("none", y.game(0, 1, 3, 1), NONE);
        // 4 9 2 left so comes to 2 less 9; 9 4 2 to 4 less 9, and so does 4 2 9: the first of these is taken
        due("below 0, the second one least", x.game(0, 1, 2, 0), -5);
        due("least one, then least other", x.game(0, 1, 2, 1) * 10 + x.game(0, 1, 2, 2), 1);
        // of 3 turns the first one has the last; the second one can always come to 4 9 2 again: 9 less 4
        due("3 turns", x.game(0, 1, 3, 0), 5);
    }

    private static void notes() {
        LinenName x = Checks.told("house 30 0;lodger 1 1;lodger 1 1");
        for (int i = 1; i <= 10; i++) {
            due("how many", x.note(i == 10 ? 60 : 0, 0, 0), i);
        }
        due("there are 10", x.note(0, 0, 0), -2);
        due("10 stay", x.count(10), 10);
        due("n NONE: there are none then", x.note(NONE, -5, 99), 0);
        due("none", x.count(10), 0);
        due("none of none", x.note(NONE, 0, 0), 0);
        due("61", x.note(61, 0, 0), -2);
        due("-2", x.note(-2, 0, 0), -2);
        due("60", x.note(60, 1, 1), 1);
        due("what can't be noted is not", x.count(10), 1);
        due("a NOTE that is not so is taken", x.note(0, 0, 1), 2);
        due("nothing is so then", x.ruled(0), 0);
    }

    private static void ruled() {
        LinenName x = Checks.told("house 30 0;lodger 1 1;lodger 1 1;mix 59 0 1");
        due("of none, without RULES", x.ruled(0) * 10 + x.ruled(1), 9);
        x.note(59, 0, 0);
        due("ahead of WEEK 59", x.ruled(0), 1);
        x.note(60, 0, 1);
        due("behind the 60th", x.ruled(0), 1);
        x.note(60, 1, 1);
        due("none such", x.ruled(0) * 10 + x.ruled(1), -2);
        Checks.rule(x, "fold 1 if week=58");
        Checks.rule(x, "fold 1 if week=59");
        Checks.rule(x, "fold 2 if week=59");
        x.note(NONE, 0, 0);
        x.note(59, 0, 0);
        x.note(60, 0, 0);
        due("two of them", x.ruled(0), 2);
        due("the first", x.ruled(1), 1);
        x.swap(0, 1);
        Checks.weeks(x, 70);
        due("from the begin on, all as the text told it", x.ruled(0) * 10 + x.ruled(1), 21);
        due("others", x.ruled(2) * 10 + x.ruled(-1), -33);
        LinenName y = Checks.told("house 30 0;lodger 1 1;lodger 1 1", "fold 1", "fold 1", "fold 1", "fold 1", "fold 1", "fold 1");
        due("six and none", y.ruled(0), 7);
        due("none ahead of 0", y.ruled(1), NONE);
        y.note(1, 0, 1);
        due("six", y.ruled(0) * 10 + y.ruled(1), 60);
    }

    private static void look() {
        LinenName x = Checks.told("house 30 0;lodger 1 1;lodger 1 1;lodger 1 1", "fold 1", "fold 2-one if other=2");
        // behind the first week beds 0, 1, 2 have: by none 0 1 2, by rule 0 1 0 2, by rule 1 2 1 0
        due("all alike", x.look(0, 0) * 10 + x.look(0, 1), 3);
        due("BED 0 parts all", x.look(1, 0) * 10 + x.look(1, 1), 1);
        // behind the second by all 0 1 2 again
        due("alike again", x.look(2, 0) * 10 + x.look(2, 1), 3);
        due("60", x.look(60, 1), 3);
        due("61", x.look(61, 1), -1);
        due("-1", x.look(-1, 0), -1);
        x.note(1, 0, 1);
        due("one alone, any BED, the least", x.look(1, 0) * 10 + x.look(1, 1), 1);
        x.note(2, 0, 1);
        due("no RULE is so", x.look(1, 0), -2);
        due("no RULE is so, how many", x.look(1, 1), -2);
        x.note(NONE, 0, 0);
        x.note(1, 2, 2);
        // by none 0 1 2, by rule 0 1 0 2: bed 2 does not part them
        due("of several the least", x.look(1, 0) * 10 + x.look(1, 1), 1);
        due("nothing is noted by it", x.count(10), 1);
        x.force(1);
        Checks.weeks(x, 3);
        due("from the begin, not from now", x.look(0, 1), 2);
    }

    private static void draws() {
        LinenName x = Checks.told("house 30 0;lodger 9 9;lodger 0 0");
        due("0 at first", x.count(12), 0);
        due("what it was", x.seed(2147483647), 0);
        due("the greatest", x.count(12), 2147483647);
        // x becomes 1043980748, which draws 15929: 29 of 100
        due("29 is not below 29", x.laundries(1, 1, 29, 1), 2);
        due("29 is below 30", x.laundries(1, 1, 30, 1), 0);
        due("x as it was", x.seed(0), 2147483647);
        // x becomes 12345, which draws 0
        due("0 is not below 0", x.laundries(1, 1, 0, 1), 2);
        due("0 is below 1", x.laundries(1, 1, 1, 1), 0);
        due("below 0", x.seed(-1), -1);
        due("nothing happens", x.count(12), 0);
        // x becomes 50 * 65536, and 50 * 65536 + 65535: both draw 50, of 100 too
        x.seed(1982965379);
        due("50 is not below 50", x.laundries(1, 1, 50, 1), 2);
        x.seed(1927068446);
        due("50 is below 51", x.laundries(1, 1, 51, 1), 0);
        x.seed(0);
        due("the same again", x.seed(5) + x.seed(5), 5);
    }

    private static void laundries() {
        LinenName x = Checks.told("house 30 0;lodger 9 9;lodger 0 0");
        due("never", x.laundries(10, 60, 0, 0), 10 * (30 * 2 + 30));
        due("all home", x.laundries(10, 60, 0, 1), 20);
        due("always, and back by an even number", x.laundries(10, 60, 100, 1), 20);
        due("always, by an odd one", x.laundries(10, 59, 100, 1), 0);
        due("once", x.laundries(1, 1, 0, 0), 2);
        due("m 0", x.laundries(0, 1, 0, 0), -1);
        due("m 11", x.laundries(11, 1, 0, 0), -1);
        due("n 61", x.laundries(1, 61, 0, 0), -1);
        due("p 101", x.laundries(1, 1, 101, 0), -1);
        Checks.weeks(x, 30);
        due("from now on", x.laundries(2, 3, 0, 0), 6);
        LinenName y = Checks.told("house 30 0;lodger 9 9");
        due("one alone is changed with none", y.laundries(10, 30, 100, 0), 300);
        LinenName z = Checks.told("house 30 0");
        due("nobody", z.laundries(10, 60, 100, 0) + z.laundries(10, 60, 100, 1), 0);
        // the mix of the week comes behind the one that is drawn; both together put two right
        LinenName v = Checks.told("house 30 0;lodger 9 9;lodger 0 0;mix 0 0 1");
        due("drawn ahead of the WEEK", v.laundries(1, 1, 100, 1), 2);
        due("not drawn", v.laundries(1, 1, 0, 1), 0);
    }

    private static void images() {
        LinenName x = Checks.told("house 30 0;lodger 9 9;lodger 0 0", "fold 1");
        for (int k = 0; k < 4; k++) {
            due("never made", x.back(k), -1);
        }
        for (int k = 0; k < 4; k++) {
            due("WEEK", x.image(k), k);
            x.week();
        }
        due("4", x.image(4), -1);
        due("-1", x.image(-1), -1);
        for (int k = 3; k >= 0; k--) {
            due("gone back to, WEEK", x.back(k), k);
            due("as it was", x.count(8), k % 2 == 0 ? 3 : 0);
            due("nothing can be UNDONE then", x.undo(), -1);
        }
        x.force(NONE);
        due("made again", x.image(3), 0);
        due("in place of what it was", x.back(3), 0);
        due("by what is in force there", x.count(5), NONE);
        due("another has its own", x.back(2) * 10 + x.count(5), 20);
        x.week();
        due("an act behind it can be", x.undo(), 0);
        due("back again", x.back(2), 2);
        // the rules stay, so that one in force is there, whenever it is gone back to
        Checks.rule(x, "fold 2");
        x.force(1);
        x.image(0);
        x.back(1);
        due("in force then", x.count(5), 0);
        x.back(0);
        due("in force there", x.count(5), 1);
        due("RULES stay", x.count(4), 2);
        imagesOfHouses();
    }

    /** An image has the house as it was told, whatever houses come between. */
    private static void imagesOfHouses() {
        LinenName x = Checks.told("house 2 3;lodger 20 1;lodger 10 2;lodger 5 3;mix 2 0 1;mix 3 1 2;mix 3 0 1");
        x.week();
        x.image(1);
        Checks.house(x, "house 9 9" + ";lodger 7 17".repeat(6) + ";mix 0 4 5;mix 1 5 4");
        x.image(2);
        Checks.house(x, "house 30 0;lodger 0 20");
        due("back to the first", x.back(1), 1);
        int[] first = {2, 3, 3, 3, 0, -1, 1, 7, 7, 3, 0, 0, 0, 0};
        for (int what = 0; what <= 13; what++) {
            due("the first, count(" + what + ")", x.count(what), first[what]);
        }
        for (int i = 0; i < 3; i++) {
            due("WANTS of " + i, x.lodger(i, 0), i + 1);
        }
        x.week();
        due("turned as it LASTS", x.sheet(0, 0) * 100 + x.sheet(1, 0) * 10 + x.sheet(2, 0), 1052);
        due("starched by its STARCH", x.starch(2), 5);
        x.week();
        due("its mix of WEEK 2", order(x), 102);
        x.week();
        due("its mixes of WEEK 3", order(x), 210);
        due("told again, as the text told it", x.note(1, 0, 0) + x.note(3, 0, 1) + x.note(4, 0, 2), 6);
        due("all so", x.ruled(0), 1);
        due("back to the second", x.back(2), 0);
        int[] second = {9, 9, 6, 2, 0, -1, 0, 0, 63, 0, 0, 0, 0, 0};
        for (int what = 0; what <= 13; what++) {
            due("the second, count(" + what + ")", x.count(what), second[what]);
        }
        x.week();
        due("its mix of WEEK 0", order(x), 12354);
        x.week();
        due("its mix of WEEK 1", order(x), 12345);
        // the grades of the begin, too: by them the rule takes the second sheet to the first bed
        LinenName y = Checks.told("house 30 5;lodger 1 1;lodger 9 9;lodger 4 4", "fold gradeo-grade");
        y.note(1, 0, 1);
        y.image(0);
        due("by the RULE", y.ruled(0) * 10 + y.ruled(1), 10);
        Checks.house(y, "house 30 5;lodger 9 1;lodger 1 9;lodger 4 4");
        y.back(0);
        y.starch(0);
        y.starch(0);
        due("by the RULE again", y.ruled(0) * 10 + y.ruled(1), 10);
        due("and where to look", y.look(1, 0) * 10 + y.look(1, 1), 1);
    }

    private static void counts() {
        LinenName x = Checks.told("house 30 9" + ";lodger 20 20".repeat(7) + ";mix 0 0 1".repeat(8));
        int[] want = {30, 9, 7, 8, 0, -1, 0, 127, 127, 0, 0, 0, 0, 0};
        for (int what = 0; what <= 13; what++) {
            due("count(" + what + ")", x.count(what), want[what]);
        }
        due("14", x.count(14), -1);
        due("-1", x.count(-1), -1);
        x.week();
        due("how often anybody was let", x.count(9), 7);
        due("each BED has its own SHEET behind eight changes", x.count(8), 127);
    }
}
