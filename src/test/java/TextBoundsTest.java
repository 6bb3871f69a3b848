/** Part I of the Terms and promises 1 to 6, sentence by sentence: each bound at it, one below it and one beyond it. */
public final class TextBoundsTest {
    private static final Checks CHECKS = new Checks("TextBoundsTest");
    private static final int A_BYTE = 0, A_NUMBER = 1, TOO_DEEP = 2, A_VALUE = 3, A_CLAUSE = 4;

    public static void main(String[] args) {
        tapeBounds();
        houseOf400();
        numbersOfHouse();
        clausesOfHouse();
        mixes();
        atTheBegin();
        houseRefused();
        ruleOf400();
        ruleTaken();
        digitsAndWords();
        signsAndBlanks();
        arithmetic();
        depth();
        sixty();
        clausesOfRule();
        placesOfFaults();
        forceBounds();
        CHECKS.close();
    }

    private static void house(String text, int want) {
        CHECKS.due("house '" + text + "'", Checks.house(new LinenName(), text), want);
    }

    private static void badHouse(String text, int place, int code) {
        house(text, Checks.fault(place, code));
    }

    private static void rule(String text, int want) {
        CHECKS.due("rule '" + text + "'", Checks.rule(new LinenName(), text), want);
    }

    private static void badRule(String text, int place, int code) {
        rule(text, Checks.fault(place, code));
    }

    /** What the greatest sum of a rule does in a house of two: 1 if the sheets are changed. */
    private static void changes(String rule, int want) {
        LinenName x = Checks.told("house 30 1;lodger 5 3;lodger 7 4", rule);
        CHECKS.due("'" + rule + "' is a rule", x.count(4), 1);
        x.week();
        CHECKS.due("'" + rule + "' changes", x.lodger(0, 1), want);
    }

    // Promises 2 and 3.

    private static void tapeBounds() {
        LinenName x = new LinenName();
        CHECKS.due("how many it has", x.feed(0, 0, 0, 0, 0), 20);
        CHECKS.due("its first n bytes, all of them", x.end(20), 20);
        CHECKS.due("not so many", x.end(21), -1);
        CHECKS.due("and nothing happens", x.count(13), 20);
        CHECKS.due("below 0", x.end(-1), -1);
        CHECKS.due("and nothing happens", x.count(13), 20);
        CHECKS.due("one alone", x.end(1), 1);
        CHECKS.due("what was cut off is gone", x.end(2), -1);
        CHECKS.due("twenty come behind", x.feed(0, 0, 0, 0, 0), 21);
        for (int size = 41; size <= 381; size += 20) {
            CHECKS.due("feed", x.feed(0, 0, 0, 0, 0), size);
        }
        CHECKS.due("401 would be more than 400", x.feed(0, 0, 0, 0, 0), -1);
        CHECKS.due("none comes", x.count(13), 381);
        CHECKS.due("380", x.end(380), 380);
        CHECKS.due("400 are not more", x.feed(0, 0, 0, 0, 0), 400);
        CHECKS.due("420 are", x.feed(0, 0, 0, 0, 0), -1);
        CHECKS.due("none comes", x.count(13), 400);
        CHECKS.due("none alone", x.end(0), 0);
        CHECKS.due("none of none", x.end(0), 0);
        CHECKS.due("one of none", x.end(1), -1);
        cutAndFed();
    }

    /** What was cut off must not come back: the bytes behind are those that are fed then. */
    private static void cutAndFed() {
        LinenName x = new LinenName();
        Checks.say(x, "house 7 77777777777777777777777777");
        x.end(8);
        Checks.say(x, "3");
        CHECKS.due("house 7 3", x.house(), 0);
        CHECKS.due("LASTS", x.count(0), 7);
        CHECKS.due("STARCH", x.count(1), 3);
        // of each number the highest byte first, the sign too: 233 is a byte like others
        LinenName y = new LinenName();
        y.feed(0x20202020, 0xe9202020, 0, 0, 0);
        y.end(8);
        CHECKS.due("byte 233 at place 4", y.house(), Checks.fault(4, A_BYTE));
        LinenName z = new LinenName();
        z.feed(0x666f6c64, 0x31202020, 0x20202020, 0x20202020, 0x2020207f);
        CHECKS.due("byte 127 at place 19", z.rule(), Checks.fault(19, A_BYTE));
    }

    // Promise 4 and the terms of a HOUSE.

    private static void houseOf400() {
        String six = "house 1 0" + ";lodger 20 20".repeat(7) + ";mix 60 0 1".repeat(7);
        String full = six + " ".repeat(400 - six.length() - 10) + ";mix 0 5 6";
        CHECKS.due("400 bytes", full.length(), 400);
        LinenName x = new LinenName();
        CHECKS.due("a house of 400", Checks.house(x, full), 7);
        CHECKS.due("its last clause is told", x.count(3), 8);
        x.week();
        CHECKS.due("and is changed", x.lodger(5, 1), 6);
        badHouse(full.substring(0, 399) + "5", 399, A_NUMBER);
        badHouse(full.substring(0, 399) + "x", 399, A_BYTE);
        badHouse(full.substring(0, 399) + " ", 400, A_BYTE);
        badHouse(" ".repeat(400), 400, A_BYTE);
    }

    private static void numbersOfHouse() {
        house("house 1 0", 0);
        house("house 30 9", 0);
        badHouse("house 0 0", 6, A_NUMBER);
        badHouse("house 31 0", 6, A_NUMBER);
        badHouse("house 30 10", 9, A_NUMBER);
        badHouse("house 99999 0", 6, A_NUMBER);
        house("house 00001 00000", 0);
        badHouse("house 000001 0", 6, A_NUMBER);
        badHouse("house 1 000000", 8, A_NUMBER);
        house("house 1 0;lodger 0 0;lodger 20 20", 2);
        badHouse("house 1 0;lodger 21 0", 17, A_NUMBER);
        badHouse("house 1 0;lodger 20 21", 20, A_NUMBER);
        badHouse("house 1 0;lodger 000000 0", 17, A_NUMBER);
        badHouse("house 1 0;lodger 4294967296 0", 17, A_NUMBER);
        badHouse("house 1 0;lodger 0", 18, A_BYTE);
        badHouse("house 1 0;lodger", 16, A_BYTE);
        String two = "house 1 0;lodger 0 0;lodger 0 0;mix ";
        house(two + "0 0 1", 2);
        house(two + "60 1 0", 2);
        badHouse(two + "61 1 0", 36, A_NUMBER);
        badHouse(two + "60 2 0", 39, A_NUMBER);
        badHouse(two + "60 0 2", 41, A_NUMBER);
        badHouse(two + "60 0 0", 41, A_NUMBER);
        badHouse(two + "60 1 1", 41, A_NUMBER);
        badHouse(two + "60 1 000000", 41, A_NUMBER);
        badHouse(two + "60 1", 40, A_BYTE);
        badHouse(two + "60", 38, A_BYTE);
        badHouse(two, 36, A_BYTE);
    }

    private static void clausesOfHouse() {
        String seven = "house 1 0" + ";lodger 1 1".repeat(7);
        house(seven, 7);
        badHouse(seven + ";lodger 1 1", seven.length() + 1, A_CLAUSE);
        badHouse(seven + ";   lodger", seven.length() + 4, A_CLAUSE);
        String eight = seven + ";mix 0 0 1".repeat(8);
        house(eight, 7);
        badHouse(eight + ";mix 0 0 1", eight.length() + 1, A_CLAUSE);
        badHouse(eight + ";mix", eight.length() + 1, A_CLAUSE);
        badHouse("house 1 0;house 1 0", 10, A_CLAUSE);
        badHouse("house 1 0;lodger 1 1;house 0 99", 21, A_CLAUSE);
        badHouse("lodger 1 1;house 1 0", 0, A_CLAUSE);
        badHouse("mix 0 0 1;house 1 0", 0, A_CLAUSE);
        badHouse("  lodger 99 1", 2, A_CLAUSE);
        // of one place the least: what is no clause is no clause too many
        badHouse(eight + ";mixs 0 0 1", eight.length() + 1, A_BYTE);
        badHouse(eight + ";", eight.length() + 1, A_BYTE);
        badHouse(eight + ";1", eight.length() + 1, A_BYTE);
        badHouse("lodgers 1 1", 0, A_BYTE);
        badHouse("", 0, A_BYTE);
        // the first along the text: what is wrong ahead of it comes first
        badHouse("house 31 0;house 1 0", 6, A_NUMBER);
        badHouse(seven.replace("lodger 1 1", "lodger 1 21") + ";lodger 1 1", 19, A_NUMBER);
    }

    private static void mixes() {
        LinenName x = Checks.told("house 30 0;lodger 1 1;lodger 1 1;mix 0 0 1;mix 0 0 1;mix 60 1 0");
        CHECKS.due("each one told is one more", x.count(3), 3);
        x.week();
        CHECKS.due("changed twice in WEEK 0", x.count(8), 3);
        Checks.weeks(x, 59);
        CHECKS.due("not changed in WEEK 59", x.count(8), 3);
        x.week();
        CHECKS.due("changed in WEEK 60", x.count(8), 0);
        x.week();
        CHECKS.due("once alone", x.count(8), 0);
        LinenName y = Checks.told("house 30 0;lodger 1 1;lodger 1 1;lodger 1 1;mix 0 0 1;mix 0 1 2");
        LinenName z = Checks.told("house 30 0;lodger 1 1;lodger 1 1;lodger 1 1;mix 0 1 2;mix 0 0 1");
        y.week();
        z.week();
        CHECKS.due("in the order told", y.lodger(0, 1) * 100 + y.lodger(1, 1) * 10 + y.lodger(2, 1), 120);
        CHECKS.due("in the other order", z.lodger(0, 1) * 100 + z.lodger(1, 1) * 10 + z.lodger(2, 1), 201);
    }

    private static void atTheBegin() {
        LinenName x = Checks.told("house 2 0" + ";lodger 7 7".repeat(7) + ";mix 0 0 1");
        Checks.weeks(x, 3);
        CHECKS.due("house", Checks.house(x, "house 2 0" + ";lodger 7 7".repeat(7)), 7);
        CHECKS.due("It is WEEK 0", x.count(6), 0);
        for (int i = 0; i < 7; i++) {
            CHECKS.due("each SHEET lies on its own BED", x.lodger(i, 1), i);
            CHECKS.due("each BED has its own", x.sheet(i, 2), i);
            CHECKS.due("and is new: WORN 0", x.sheet(i, 1), 0);
            CHECKS.due("GRADE as told", x.sheet(i, 0), 7);
            CHECKS.due("nobody was let", x.lodger(i, 3), 0);
        }
        CHECKS.due("no mix of the one there was", x.count(3), 0);
        // nor of one before it, nor of a text that was refused
        Checks.house(x, "house 2 0;lodger 7 7;lodger 7 7");
        CHECKS.due("no mix of the first one", x.count(3), 0);
        Checks.house(x, "house 9 9;lodger 1 2;lodger 3 4;mix 0 0 1;mix");
        CHECKS.due("a house behind a refused one", Checks.house(x, "house 2 0;lodger 7 7;lodger 8 8;mix 1 0 1"), 2);
        CHECKS.due("its mixes alone", x.count(3), 1);
        CHECKS.due("its LASTS", x.count(0), 2);
        x.week();
        CHECKS.due("not in WEEK 0", x.lodger(0, 1), 0);
        x.week();
        CHECKS.due("in WEEK 1", x.lodger(0, 1), 1);
    }

    private static void houseRefused() {
        LinenName x = Checks.told("house 3 2;lodger 1 1;lodger 1 1;mix 5 0 1", "fold 1");
        x.seed(3);
        x.note(0, 0, 0);
        x.week();
        Checks.say(x, "house 4 4;lodger 9 9;lodger");
        CHECKS.due("-2 - its FAULT", x.house(), Checks.fault(27, A_BYTE));
        int[] want = {3, 2, 2, 1, 1, 0, 1, 3, 0, 2, 1, 1, 3, 27};
        for (int what = 0; what <= 13; what++) {
            CHECKS.due("all stays, count(" + what + ")", x.count(what), want[what]);
        }
        CHECKS.due("the same again", x.house(), Checks.fault(27, A_BYTE));
        Checks.say(x, " 8 8");
        CHECKS.due("what was on the tape is its begin", x.house(), 2);
        CHECKS.due("the TAPE is empty then", x.count(13), 0);
        CHECKS.due("an empty tape is none", x.house(), Checks.fault(0, A_BYTE));
        int[] then = {4, 4, 2, 0, 1, 0, 0, 3, 3, 0, 0, 0, 3, 0};
        for (int what = 0; what <= 13; what++) {
            CHECKS.due("in place of the one there was, count(" + what + ")", x.count(what), then[what]);
        }
    }

    // Promise 5 and the terms of a RULE.

    private static void ruleOf400() {
        String text = "fold 0 if one=1;" + " ".repeat(376) + "fold 123";
        CHECKS.due("400 bytes", text.length(), 400);
        rule(text, 0);
        changes(text, 1);
        badRule(text.substring(0, 399) + "x", 399, A_BYTE);
        badRule(text.substring(0, 397) + "   ", 400, A_BYTE);
        badRule(" ".repeat(400), 400, A_BYTE);
    }

    private static void ruleTaken() {
        LinenName x = new LinenName();
        for (int i = 0; i < 6; i++) {
            Checks.say(x, "fold " + i + " if");
            CHECKS.due("-2 - its FAULT", x.rule(), Checks.fault(9, A_BYTE));
            CHECKS.due("the TAPE is empty then, too", x.count(13), 0);
            CHECKS.due("nothing can be cut to", x.end(1), -1);
            CHECKS.due("no rule by it", x.count(4), i);
            Checks.say(x, "fold " + i);
            CHECKS.due("its number", x.rule(), i);
            CHECKS.due("the TAPE is empty then", x.count(13), 0);
        }
        CHECKS.due("there are 6", x.rule(), -1);
        Checks.say(x, "fold 6");
        CHECKS.due("there are 6", x.rule(), -1);
        CHECKS.due("nothing happens", x.count(13), 6);
        Checks.say(x, " if");
        CHECKS.due("with a fault, too", x.rule(), -1);
        CHECKS.due("nothing happens", x.count(13), 9);
        CHECKS.due("there are 6", x.count(4), 6);
        x.end(0);
        Checks.say(x, "house 1 0");
        CHECKS.due("a house can be told still", x.house(), 0);
        sixLongRules();
    }

    /** Each of six is read as if it were the first, and says what it says. */
    private static void sixLongRules() {
        LinenName x = Checks.told("house 30 0;lodger 1 1;lodger 1 1;lodger 1 1");
        for (int i = 0; i < 6; i++) {
            String pair = i % 2 == 0 ? "one=0 and other=2" : "one=1";
            String text = "fold 1" + "+0".repeat(20) + " if " + pair + " and 1=1".repeat(9);
            CHECKS.due("long rule " + i, Checks.rule(x, text), i);
        }
        for (int i = 0; i < 6; i++) {
            Checks.house(x, "house 30 0;lodger 1 1;lodger 1 1;lodger 1 1");
            x.force(i);
            x.week();
            CHECKS.due("by rule " + i, x.count(8), i % 2 == 0 ? 2 : 1);
        }
    }

    private static void digitsAndWords() {
        rule("fold 0", 0);
        rule("fold 99999", 0);
        badRule("fold 100000", 5, A_NUMBER);
        badRule("fold 000000", 5, A_NUMBER);
        rule("fold 00000", 0);
        badRule("fold 1" + "0".repeat(300), 5, A_NUMBER);
        badRule("fold 1 2", 7, A_BYTE);
        badRule("fold 1one", 6, A_BYTE);
        badRule("fold one1", 8, A_BYTE);
        String[] words = {"one", "other", "grade", "gradeo", "wants", "wantso", "worn", "worno", "home", "lets", "was", "week"};
        for (String word : words) {
            rule("fold " + word, 0);
            badRule("fold " + word + "x", 5, A_BYTE);
            badRule("fold " + word.substring(0, word.length() - 1) + "q", 5, A_BYTE);
            badRule("fold " + word.toUpperCase(), 5, A_BYTE);
            badRule("fold q" + word.substring(1), 5, A_BYTE);
            badRule("fold q" + word, 5, A_BYTE);
        }
        badRule("bold 1", 0, A_BYTE);
        badRule("fold 1 of one=0", 7, A_BYTE);
        badRule("fold 1 if one=0 ar one=1", 16, A_BYTE);
        badRule("fold 1 if one=0 ond one=1", 16, A_BYTE);
        badRule("fold 1 if hot one=0", 10, A_BYTE);
        badHouse("mouse 1 0", 0, A_BYTE);
        badHouse("house 1 0;dodger 1 1", 10, A_BYTE);
        badHouse("house 1 0;lodger 1 1;lodger 1 1;fix 0 0 1", 32, A_BYTE);
        badRule("fold oneo", 5, A_BYTE);
        badRule("fold waso", 5, A_BYTE);
        badRule("fold fold", 5, A_BYTE);
        badRule("fold and", 5, A_BYTE);
        badRule("fold on e", 5, A_BYTE);
        badRule("fol d 1", 0, A_BYTE);
        badRule("fold 1 if one=1 or", 18, A_BYTE);
        badRule("fold 1 if one=1 and", 19, A_BYTE);
        badRule("fold 1 if one=1 or or one=1", 19, A_BYTE);
        badRule("fold 1 or one=1", 7, A_BYTE);
    }

    private static void signsAndBlanks() {
        changes("fold1", 1);
        changes(" fold  1 ", 1);
        changes("fold 1if one=0", 1);
        changes("fold 1 if[one=0]", 1);
        changes("fold 1 if not[one=1]", 1);
        changes("fold 1 if one=0or one=1", 1);
        changes("fold 1 if one=0and other=1", 1);
        changes("fold 1 if one>=0 and one<=0", 1);
        badRule("fold 1 if one> =0", 15, A_BYTE);
        badRule("fold 1 if one=>0", 14, A_BYTE);
        badRule("fold 1 if one<>0", 14, A_BYTE);
        badRule("fold 1 if one!0", 13, A_BYTE);
        badRule("fold 1 if (one=0)", 10, A_BYTE);
        for (int sign : new int[] {0, 9, 10, 31, 33, 46, 58, 64, 65, 90, 95, 96, 123, 127, 128, 160, 233, 255}) {
            badRule("fold 1" + (char) sign, 6, A_BYTE);
            badRule("fold " + (char) sign + "1", 5, A_BYTE);
            badHouse("house 1 0" + (char) sign, 9, A_BYTE);
            badHouse("house" + (char) sign + "1 0", 5, A_BYTE);
            badHouse((char) sign + "house 1 0", 0, A_BYTE);
        }
        badRule("fold\t1", 4, A_BYTE);
        badRule("fold 1\n", 6, A_BYTE);
        badRule("fold 1\0", 6, A_BYTE);
        badRule("fold 1,fold 2", 6, A_BYTE);
        badRule("fold +1", 5, A_BYTE);
        badRule("fold 1+-1", 7, A_BYTE);
        badRule("fold 1**1", 7, A_BYTE);
        badRule("fold 1 if [one=0]=1", 17, A_BYTE);
        badRule("fold 1 if [one]=1", 14, A_BYTE);
    }

    private static void arithmetic() {
        changes("fold 1 if 7/2=3 and 7%2=1 and 6/2=3 and 6%2=0", 1);
        changes("fold 1 if 5/0=0 and 5%0=0 and 0/0=0 and 0%0=0", 1);
        changes("fold 1/0", 0);
        changes("fold 1+1/0", 1);
        changes("fold 5%0", 0);
        changes("fold one/one", 0);
        changes("fold other/one", 0);
        badRule("fold 1 if 5/[1-1]=0", 12, A_BYTE);
        // 2 to the 63rd goes round to the least number, which is below 0; so / and % are seen to go towards 0
        String power48 = "65536*65536*65536";
        String least = power48 + "*32768";
        changes("fold " + power48 + "*16384", 1);
        changes("fold " + least, 0);
        changes("fold " + least + "-1", 1);
        changes("fold 0-" + least, 0);
        changes("fold " + power48 + "*65536", 0);
        changes("fold " + power48 + "*65536+1", 1);
        changes("fold 1 if " + least + "<0", 1);
        changes("fold 1 if " + least + "/65536/65536/65536=0-32768", 1);
        changes("fold 1 if " + least + "%10=0-8", 1);
        changes("fold 1 if " + least + "%3=0-2", 1);
        changes("fold 1 if " + least + "/3*3-2=" + least, 1);
        changes("fold 1 if " + least + "/0=0 and " + least + "%0=0", 1);
    }

    private static void depth() {
        rule("fold 1 if " + "[".repeat(10) + "1=1" + "]".repeat(10), 0);
        badRule("fold 1 if " + "[".repeat(11) + "1=1" + "]".repeat(11), 20, TOO_DEEP);
        rule("fold 1 if " + "not ".repeat(10) + "1=1", 0);
        badRule("fold 1 if " + "not ".repeat(11) + "1=1", 50, TOO_DEEP);
        rule("fold 1 if " + "not [".repeat(5) + "1=1" + "]".repeat(5), 0);
        badRule("fold 1 if " + "not [".repeat(5) + "[1=1]", 35, TOO_DEEP);
        badRule("fold 1 if " + "[not ".repeat(5) + "not 1=1", 35, TOO_DEEP);
        // side by side they do not lie within one another
        String ten = "[".repeat(10) + "1=1" + "]".repeat(10);
        rule("fold 1 if " + ten + " and " + ten + " or " + ten + ";fold 1 if " + ten, 0);
        rule("fold 1 if " + "[".repeat(9) + "not 1=1 and not 1=2" + "]".repeat(9), 0);
        badRule("fold 1 if " + "[".repeat(9) + "not 1=1 and not not 1=2" + "]".repeat(9), 35, TOO_DEEP);
        // a word that begins like not is none
        badRule("fold 1 if " + "not ".repeat(10) + "nots 1=1", 50, A_BYTE);
        changes("fold 1 if " + "not ".repeat(10) + "1=1", 1);
        changes("fold 1 if " + "not ".repeat(9) + "1=1", 0);
    }

    private static void sixty() {
        rule("fold " + "1+".repeat(59) + "1", 0);
        badRule("fold " + "1+".repeat(60) + "1", 125, A_VALUE);
        badRule("fold " + "1*".repeat(60) + "week", 125, A_VALUE);
        // 57 of the sum, two of the fact and the fact: 60
        rule("fold " + "1+".repeat(56) + "1 if 1=1", 0);
        badRule("fold " + "1+".repeat(57) + "1 if 1=1", 5 + 114 + 1 + 6, A_VALUE);
        badRule("fold " + "1+".repeat(58) + "1 if 1=1", 5 + 116 + 1 + 5, A_VALUE);
        badRule("fold " + "1+".repeat(58) + "1 if 1 >= 1", 5 + 116 + 1 + 6, A_VALUE);
        badRule("fold " + "1+".repeat(59) + "1 if 1=1", 5 + 118 + 1 + 4, A_VALUE);
        // not, brackets, and, or count nothing: 1 and 19 facts of three are 58
        rule("fold 1 if not [1=1" + " or 1=1".repeat(18) + "]", 0);
        rule("fold 1+1+1 if not [1=1" + " and 1=1".repeat(18) + "]", 0);
        badRule("fold 1+1+1+1 if not [1=1" + " or 1=1".repeat(18) + "]", 24 + 18 * 7 - 1, A_VALUE);
        // of all clauses together
        rule("fold 1;".repeat(11) + "fold " + "1+".repeat(48) + "1", 0);
        badRule("fold 1;".repeat(11) + "fold " + "1+".repeat(49) + "1", 77 + 5 + 98, A_VALUE);
        // of one place the least
        badRule("fold " + "1+".repeat(60) + "100000", 125, A_NUMBER);
        badRule("fold " + "1+".repeat(60) + "[", 125, A_BYTE);
        badRule("fold " + "1+".repeat(58) + "1 if 1 and", 5 + 116 + 1 + 6, A_BYTE);
        badRule("fold " + "1+".repeat(60), 125, A_BYTE);
    }

    private static void clausesOfRule() {
        rule("fold 1;".repeat(11) + "fold 1", 0);
        badRule("fold 1;".repeat(12) + "fold 1", 84, A_CLAUSE);
        badRule("fold 1;".repeat(12) + "  fold", 86, A_CLAUSE);
        badRule("fold 1;".repeat(12) + "folds", 84, A_BYTE);
        badRule("fold 1;".repeat(12), 84, A_BYTE);
        badRule("fold 1;;fold 1", 7, A_BYTE);
        badRule(";fold 1", 0, A_BYTE);
        badRule("", 0, A_BYTE);
        changes("fold 0 if one=1;".repeat(11) + "fold 1", 1);
        changes("fold 1 if one=1", 0);
        changes("fold 0;fold 1", 0);
        changes("fold 0 if one=0;fold 1", 0);
        changes("fold 0 if one=1;fold 1;fold 0", 1);
    }

    private static void placesOfFaults() {
        // "the first along the text", although a later one is of a lesser kind
        badRule("fold 100000+x", 5, A_NUMBER);
        badRule("fold x+100000", 5, A_BYTE);
        badRule("fold 1 if " + "[".repeat(11) + "x", 20, TOO_DEEP);
        badHouse("house 31 x", 6, A_NUMBER);
        // "the end (behind the last byte)", behind blanks, too
        badRule("fold 1 if one=    ", 18, A_BYTE);
        badHouse("house 1    ", 11, A_BYTE);
        // place 0 and kind 0 make 1
        CHECKS.due("the least fault", Checks.house(new LinenName(), "x"), -3);
        CHECKS.due("kind 4 at 0", Checks.house(new LinenName(), "lodger"), -7);
        CHECKS.due("place 1", Checks.house(new LinenName(), " x"), -11);
    }

    // Promise 6.

    private static void forceBounds() {
        LinenName x = new LinenName();
        CHECKS.due("no rule there", x.force(0), -2);
        CHECKS.due("none was, none is", x.force(-1), -1);
        for (int i = 0; i < 6; i++) {
            Checks.rule(x, "fold " + i);
            CHECKS.due("the last one told", x.force(i), i - 1);
            CHECKS.due("one beyond", x.force(i + 1), -2);
            CHECKS.due("is in force still", x.count(5), i);
        }
        CHECKS.due("below NONE", x.force(-2), -2);
        CHECKS.due("none", x.force(-1), 5);
        CHECKS.due("none was", x.force(5), -1);
        CHECKS.due("the same again", x.force(5), 5);
        Checks.house(x, "house 1 0;lodger 1 1;lodger 1 1");
        CHECKS.due("it stays for a new house", x.count(5), 5);
        x.week();
        CHECKS.due("and is followed there", x.count(8), 0);
    }
}
