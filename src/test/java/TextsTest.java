/** Promises 1 to 6: a new object, feed, end, house, rule, force. */
public final class TextsTest {
    private static final Checks CHECKS = new Checks("TextsTest");
    private static final String TWO = "house 30 1;lodger 5 3;lodger 7 4";

    public static void main(String[] args) {
        newObject();
        tape();
        houses();
        houseFaults();
        houseInPlace();
        rules();
        ruleFaults();
        ruleLimits();
        forces();
        CHECKS.close();
    }

    private static void newObject() {
        LinenName x = new LinenName();
        for (int what = 0; what <= 13; what++) {
            CHECKS.due("new count(" + what + ")", x.count(what), what == 5 ? -1 : 0);
        }
        CHECKS.due("new week()", x.week(), -1);
        CHECKS.due("new undo()", x.undo(), -1);
        CHECKS.due("new back(0)", x.back(0), -1);
        CHECKS.due("new lodger(0, 0)", x.lodger(0, 0), -1);
        CHECKS.due("new force(0)", x.force(0), -2);
        CHECKS.due("new force(NONE)", x.force(LinenName.NONE), -1);
    }

    private static void tape() {
        LinenName x = new LinenName();
        CHECKS.due("end(0)", x.end(0), 0);
        CHECKS.due("end(1)", x.end(1), -1);
        CHECKS.due("end(-1)", x.end(-1), -1);
        for (int i = 1; i <= 20; i++) {
            CHECKS.due("feed " + i, x.feed(-1, 0, 1, 2, 3), 20 * i);
        }
        CHECKS.due("feed 21", x.feed(0, 0, 0, 0, 0), -1);
        CHECKS.due("count(13)", x.count(13), 400);
        CHECKS.due("end(401)", x.end(401), -1);
        CHECKS.due("end(381)", x.end(381), 381);
        CHECKS.due("feed beyond 400", x.feed(0, 0, 0, 0, 0), -1);
        CHECKS.due("still 381", x.count(13), 381);
        CHECKS.due("end(380)", x.end(380), 380);
        CHECKS.due("feed to 400", x.feed(0, 0, 0, 0, 0), 400);
        CHECKS.due("end(0)", x.end(0), 0);
        // "house 30 9" in bytes of each number, the highest first, behind a blank
        CHECKS.due("feed", x.feed(0x20686f75, 0x73652033, 0x30203900, 0, 0), 20);
        CHECKS.due("end", x.end(11), 11);
        CHECKS.due("house()", x.house(), 0);
        CHECKS.due("LASTS", x.count(0), 30);
        CHECKS.due("STARCH", x.count(1), 9);
        CHECKS.due("empty tape", x.count(13), 0);
    }

    private static void houses() {
        LinenName x = new LinenName();
        CHECKS.due("least house", Checks.house(x, "house 1 0"), 0);
        CHECKS.due("no blanks", Checks.house(x, "house1 0;lodger20 20;lodger0 0;mix60 1 0"), 2);
        CHECKS.due("GRADE", x.sheet(0, 0), 20);
        CHECKS.due("WANTS", x.lodger(0, 0), 20);
        CHECKS.due("many blanks", Checks.house(x, "  house   00030  00009  ;  lodger 3 4  "), 1);
        CHECKS.due("LASTS", x.count(0), 30);
        CHECKS.due("STARCH", x.count(1), 9);
        String seven = "house 1 0" + ";lodger 1 2".repeat(7);
        CHECKS.due("seven", Checks.house(x, seven), 7);
        CHECKS.due("eight mixes", Checks.house(x, seven + ";mix 0 0 6".repeat(8)), 7);
        CHECKS.due("mixes told", x.count(3), 8);
        CHECKS.due("lodgers told", x.count(2), 7);
    }

    private static void badHouse(String text, int place, int code) {
        LinenName x = Checks.told(TWO);
        x.week();
        CHECKS.due("house of '" + text + "'", Checks.house(x, text), Checks.fault(place, code));
        CHECKS.due("the tape stays", x.count(13), text.length());
        CHECKS.due("the house stays", x.count(2), 2);
        CHECKS.due("the week stays", x.count(6), 1);
        CHECKS.due("can still be undone", x.count(11), 1);
    }

    private static void houseFaults() {
        badHouse("", 0, 0);
        badHouse("   ", 3, 0);
        badHouse("house", 5, 0);
        badHouse("house ", 6, 0);
        badHouse("house 1", 7, 0);
        badHouse("house 0 0", 6, 1);
        badHouse("house 31 0", 6, 1);
        badHouse("house 1 10", 8, 1);
        badHouse("house 000001 0", 6, 1);
        badHouse("house 1 00000000000000000000000", 8, 1);
        badHouse("house 1 99999999999", 8, 1);
        badHouse("houses 1 0", 0, 0);
        badHouse("House 1 0", 0, 0);
        badHouse("hous 1 0", 0, 0);
        badHouse("1 0", 0, 0);
        badHouse("house one 0", 6, 0);
        badHouse("house -1 0", 6, 0);
        badHouse("house 1 0 0", 10, 0);
        badHouse("house 1 0;", 10, 0);
        badHouse("house 1 0;;", 10, 0);
        badHouse("house 1 0 lodger 1 1", 10, 0);
        badHouse("house 1 0\0", 9, 0);
        badHouse("house 1 0" + (char) 233, 9, 0);
        badHouse("house\t1 0", 5, 0);
        badHouse("lodger 0 0", 0, 4);
        badHouse(" mix 0 0 1", 1, 4);
        badHouse("fold 1", 0, 0);
        badHouse("house 1 0; house 1 0", 11, 4);
        badHouse("house 1 0;lodger 21 0", 17, 1);
        badHouse("house 1 0;lodger 0 21", 19, 1);
        badHouse("house 1 0;lodger 21 x", 17, 1);
        badHouse("house 1 0;lodger x 21", 17, 0);
        badHouse("house 1 0;mix 61 0 1", 14, 1);
        badHouse("house 1 0;mix 0 0 1", 16, 1);
        badHouse("house 1 0;lodger 0 0;mix 0 0 0", 29, 1);
        badHouse("house 1 0;lodger 0 0;mix 0 0 1", 29, 1);
        badHouse("house 1 0;lodger 0 0;mix 0 0 1;lodger 0 0", 29, 1);
        badHouse("house 1 0;lodger 0 0;mix 0 0 x", 29, 0);
        badHouse("house 1 0;lodger 0 0;lodger 0 0;mix 0 0 000001", 40, 1);
        String full = "house 1 0" + ";lodger 1 2".repeat(7) + ";mix 0 0 6".repeat(8);
        badHouse(full + ";lodger 1 2", full.length() + 1, 4);
        badHouse(full + "; mix 1 2 3", full.length() + 2, 4);
        badHouse(full + ";house 1 2", full.length() + 1, 4);
        badHouse(full + ";lodgers 1 2", full.length() + 1, 0);
    }

    private static void houseInPlace() {
        LinenName x = Checks.told(TWO, "fold 1");
        x.seed(77);
        x.note(1, 0, 1);
        x.week();
        x.image(0);
        CHECKS.due("house again", Checks.house(x, "house 2 3;lodger 1 1"), 1);
        CHECKS.due("WEEK", x.count(6), 0);
        CHECKS.due("NOTES", x.count(10), 0);
        CHECKS.due("to be UNDONE", x.count(11), 0);
        CHECKS.due("undo()", x.undo(), -1);
        CHECKS.due("IN FORCE", x.count(5), 0);
        CHECKS.due("x", x.count(12), 77);
        CHECKS.due("RULES", x.count(4), 1);
        CHECKS.due("WORN", x.sheet(0, 1), 0);
        CHECKS.due("was let", x.lodger(0, 3), 0);
        CHECKS.due("SHEET", x.lodger(0, 1), 0);
        CHECKS.due("no second lodger", x.lodger(1, 1), -1);
        CHECKS.due("the image stays", x.back(0), 1);
    }

    /** Whether a rule changes the two beds of a house of two. */
    private static int changes(String rule) {
        LinenName x = Checks.told(TWO, rule);
        if (x.count(4) != 1) {
            return -1;
        }
        x.week();
        return x.lodger(0, 1);
    }

    private static void rules() {
        CHECKS.due("a sum above 0", changes("fold 1"), 1);
        CHECKS.due("a sum of 0", changes("fold 0"), 0);
        CHECKS.due("a sum below 0", changes("fold 3-4"), 0);
        CHECKS.due("no blanks", changes("fold1if1=1and2<3or4>5"), 1);
        CHECKS.due("many blanks", changes("  fold  1  if  [  1  <=  1  ]  "), 1);
        CHECKS.due("a test that holds not", changes("fold 1 if 1=2"), 0);
        CHECKS.due("the first clause that holds", changes("fold 5 if 1=2;fold 0 if 1=1;fold 9"), 0);
        CHECKS.due("the first clause without a test", changes("fold 5 if 1=2;fold 7;fold 0"), 1);
        CHECKS.due("the twelfth clause", changes("fold 1 if 1=2;".repeat(11) + "fold 1 if 1=1"), 1);
        CHECKS.due("none of twelve", changes("fold 1 if 1=2;".repeat(12).replaceAll(";$", "")), 0);
        CHECKS.due("or and and", changes("fold 1 if 1=1 or 1=1 and 1=2"), 1);
        CHECKS.due("and and or", changes("fold 1 if 1=2 and 1=1 or 1=1"), 1);
        CHECKS.due("brackets", changes("fold 1 if [1=1 or 1=1] and 1=2"), 0);
        CHECKS.due("not binds a fact", changes("fold 1 if not 1=2 or 1=1"), 1);
        CHECKS.due("not of brackets", changes("fold 1 if not [1=2 or 1=1]"), 0);
        CHECKS.due("not not", changes("fold 1 if not not 1=2"), 0);
        CHECKS.due("signs", changes("fold 1 if 1<2 and 1<=1 and 1<=2 and 1=1 and 2>=1 and 1>=1 and 2>1"), 1);
        for (String wrong : new String[] {"1<1", "2<1", "2<=1", "1=2", "1>=2", "1>1", "1>2"}) {
            CHECKS.due(wrong, changes("fold 1 if " + wrong), 0);
        }
        CHECKS.due("from the left", changes("fold 1 if 10-3-2=5 and 100/7/2=7 and 17%10%4=3 and 2+3*4=14"), 1);
        CHECKS.due("mixed", changes("fold 1 if 2*3+4*5-6/4=25 and 7*3%4=1 and 7%4*3=9"), 1);
        CHECKS.due("by 0", changes("fold 1 if 5/0=0 and 5%0=0 and 3+5/0=3"), 1);
        CHECKS.due("words", changes("fold 1 if one=0 and other=1 and grade=5 and gradeo=7 and wants=3 and wantso=4"), 1);
        CHECKS.due("more words", changes("fold 1 if worn=0 and worno=0 and home=2 and lets=2 and was=0 and week=0"), 1);
        bigNumbers();
        laterWords();
        greatest();
    }

    private static void bigNumbers() {
        long four = 99999L * 99999L * 99999L * 99999L;
        String told = "99999*99999*99999*99999";
        CHECKS.due("64 bits, sign", changes("fold " + told), four > 0 ? 1 : 0);
        CHECKS.due("64 bits, rest", changes("fold 1 if " + told + "%1000=" + "0" + (four < 0 ? "-" : "+")
            + Math.abs(four % 1000)), 1);
        CHECKS.due("64 bits, below 0", changes("fold 0-" + told), -four > 0 ? 1 : 0);
        long five = four * 99998L;
        CHECKS.due("64 bits, round again", changes("fold " + told + "*99998"), five > 0 ? 1 : 0);
        // one of these is below 0, so that / and % are seen to go towards 0
        for (long last = 99990; last <= 99999; last++) {
            long sum = 99999L * 99999L * 99999L * last;
            String text = "99999*99999*99999*" + last;
            CHECKS.due(text + "%7", changes("fold 1 if " + text + "%7=0" + (sum < 0 ? "-" : "+") + Math.abs(sum % 7)), 1);
            CHECKS.due(text + "/99999", changes("fold 1 if " + text + "/99999/99999/99999=0"
                + (sum < 0 ? "-" : "+") + Math.abs(sum / 99999 / 99999 / 99999)), 1);
        }
    }

    private static void laterWords() {
        LinenName x = Checks.told("house 9 1;lodger 5 3;lodger 7 6",
            "fold 1 if week=2 and worn=1 and worno=2 and home=2 and lets=2 and was=2 and grade=6 and gradeo=7");
        x.starch(0);
        x.week();
        x.darn(0);
        x.week();
        CHECKS.due("not before", x.lodger(0, 1), 0);
        x.week();
        CHECKS.due("as the words say", x.lodger(0, 1), 1);
        LinenName y = Checks.told("house 9 1;lodger 5 3;lodger 7 6",
            "fold 1 if home=0 and lets=1 and grade=7 and gradeo=5 and wants=3 and wantso=6 and worn=0");
        y.swap(0, 1);
        y.week();
        CHECKS.due("of the sheets that lie there", y.lodger(0, 1), 0);
    }

    private static void greatest() {
        String four = "house 30 0;lodger 1 0;lodger 4 0;lodger 2 0;lodger 4 0";
        LinenName x = Checks.told(four, "fold gradeo-grade");
        x.week();
        CHECKS.due("the greatest, the least other", x.lodger(0, 1), 1);
        CHECKS.due("once alone", x.lodger(2, 1), 2);
        LinenName y = Checks.told(four, "fold 1");
        y.week();
        CHECKS.due("of several the least one and other", y.lodger(0, 1) * 10 + y.lodger(1, 1), 10);
        LinenName z = Checks.told(four, "fold one*10+other");
        z.week();
        CHECKS.due("the greatest of all", z.lodger(2, 1) * 10 + z.lodger(3, 1), 32);
    }

    private static void badRule(String text, int place, int code) {
        LinenName x = new LinenName();
        CHECKS.due("rule of '" + text + "'", Checks.rule(x, text), Checks.fault(place, code));
        CHECKS.due("no rule", x.count(4), 0);
        CHECKS.due("the tape is empty behind a fault", x.count(13), 0);
    }

    private static void ruleFaults() {
        badRule("", 0, 0);
        badRule(" ", 1, 0);
        badRule("fold", 4, 0);
        badRule("fold 1 if", 9, 0);
        badRule("folds 1", 0, 0);
        badRule("foldone", 0, 0);
        badRule("fold x", 5, 0);
        badRule("fold if", 5, 0);
        badRule("fold not", 5, 0);
        badRule("fold [1]", 5, 0);
        badRule("fold 1;", 7, 0);
        badRule("fold 1 1", 7, 0);
        badRule("fold 1 one", 7, 0);
        badRule("fold 5 %", 8, 0);
        badRule("fold -1", 5, 0);
        badRule("fold 1 if worn = 1]", 18, 0);
        badRule("fold 1 if [worn = 1", 19, 0);
        badRule("fold 1 if worn", 14, 0);
        badRule("fold 1 if worn and 1=1", 15, 0);
        badRule("fold 1 if 1=1=1", 13, 0);
        badRule("fold 1 if 1==1", 12, 0);
        badRule("fold 1 if 1< =1", 13, 0);
        badRule("fold 1 if 1=<1", 12, 0);
        badRule("fold 1 if 1=1 xor 1=1", 14, 0);
        badRule("fold 1 if 1=1 andnot 1=1", 14, 0);
        badRule("fold 1 if 1=1 if 1=1", 14, 0);
        badRule("fold 1 if not", 13, 0);
        badRule("fold 1 if []", 11, 0);
        badRule("fold 1 = 1", 7, 0);
        badRule("fold gradeos", 5, 0);
        badRule("fold grad", 5, 0);
        badRule("fold Grade", 5, 0);
        badRule("fold 123456", 5, 1);
        badRule("fold 1+000000", 7, 1);
        badRule("fold 1 if 123456=x", 10, 1);
        badRule("fold 1 123456", 7, 0);
        badRule("house 1 0", 0, 0);
        LinenName x = new LinenName();
        CHECKS.due("five digits", Checks.rule(x, "fold 99999"), 0);
        CHECKS.due("the tape is empty", x.count(13), 0);
    }

    private static void ruleLimits() {
        LinenName x = new LinenName();
        CHECKS.due("ten deep", Checks.rule(x, "fold 1 if " + "not ".repeat(10) + "1=1"), 0);
        CHECKS.due("ten brackets", Checks.rule(x, "fold 1 if " + "[".repeat(10) + "1=1" + "]".repeat(10)), 1);
        CHECKS.due("ten of both, twice", Checks.rule(x, "fold 1 if " + "not[".repeat(5) + "1=1" + "]".repeat(5)
            + " and " + "not[".repeat(5) + "1=1" + "]".repeat(5)), 2);
        CHECKS.due("twelve clauses", Checks.rule(x, "fold 1;".repeat(11) + "fold 2"), 3);
        CHECKS.due("60 values", Checks.rule(x, "fold " + "1+".repeat(59) + "1"), 4);
        CHECKS.due("60 with facts", Checks.rule(x, "fold " + "1+".repeat(56) + "1 if 1=1"), 5);
        x.end(0);
        Checks.say(x, "fold 1");
        CHECKS.due("a seventh", x.rule(), -1);
        CHECKS.due("nothing happens", x.count(13), 6);
        CHECKS.due("there are six", x.count(4), 6);
        badRule("fold 1 if " + "not ".repeat(11) + "1=1", 50, 2);
        badRule("fold 1 if " + "[".repeat(11) + "1=1", 20, 2);
        badRule("fold 1 if " + "not [".repeat(5) + "not 1=1", 35, 2);
        badRule("fold 1 if 1=1 or " + "[".repeat(11) + "x", 27, 2);
        badRule("fold 1;".repeat(12) + " fold 1", 85, 4);
        badRule("fold 1;".repeat(12) + "fold x", 84, 4);
        badRule("fold 1;".repeat(12) + "x", 84, 0);
        badRule("fold 1;".repeat(12), 84, 0);
        badRule("fold " + "1+".repeat(60) + "1", 125, 3);
        badRule("fold " + "1+".repeat(60) + "123456", 125, 1);
        badRule("fold " + "1+".repeat(60) + "x", 125, 0);
        badRule("fold " + "1+".repeat(58) + "1 if 1 = 1", 128, 3);
        badRule("fold " + "1+".repeat(57) + "1 if 1 = week", 128, 3);
        badRule("fold " + "1+".repeat(59) + "1 if 1=1", 128, 3);
        badRule("fold " + "1+".repeat(49) + "1;fold " + "1+".repeat(10) + "1", 130, 3);
    }

    private static void forces() {
        LinenName x = Checks.told(TWO);
        CHECKS.due("rule 0", Checks.rule(x, "fold 1"), 0);
        CHECKS.due("rule 1", Checks.rule(x, "fold 0"), 1);
        CHECKS.due("none in force by itself", x.count(5), -1);
        CHECKS.due("force(1)", x.force(1), -1);
        CHECKS.due("force(0)", x.force(0), 1);
        CHECKS.due("force(2)", x.force(2), -2);
        CHECKS.due("force(-2)", x.force(-2), -2);
        CHECKS.due("still 0", x.count(5), 0);
        x.week();
        CHECKS.due("by rule 0", x.lodger(0, 1), 1);
        CHECKS.due("force(NONE)", x.force(LinenName.NONE), 0);
        x.week();
        CHECKS.due("by none", x.lodger(0, 1), 1);
        CHECKS.due("no act", x.count(11), 2);
    }
}
