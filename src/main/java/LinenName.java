import java.util.Arrays;

/** A lodging house whose sheets go from bed to bed; shared/DOC.md tells what every call answers. */
public final class LinenName {
    public static final int NONE = -1;

    private static final int MOST_LODGERS = 7;
    private static final int MOST_MIXES = 8;
    private static final int MOST_RULES = 6;
    private static final int MOST_NOTES = 10;
    private static final int MOST_IMAGES = 4;
    private static final int MOST_UNDONE = 20;
    private static final int MOST_GRADE = 99;
    private static final int LAST_WEEK = 999;
    private static final int LONGEST_AHEAD = 100;
    private static final int LONGEST_PLAN = 60;
    private static final int MOST_PENCE = 9999;
    private static final int MOST_TURNS = 3;
    private static final int MOST_TIMES = 10;

    private static final int NOTHING_SUCH = -2;
    private static final int NOT_ASKED_SO = -3;
    private static final int NO_GAME = -1000;

    private final Tape tape = new Tape();
    private final HouseReader houseReader = new HouseReader();
    private final RuleReader ruleReader = new RuleReader();
    private final Rule[] rules = new Rule[MOST_RULES];
    private final Image now = new Image();
    private final Image[] images = new Image[MOST_IMAGES];
    private final Past past = new Past();
    private final Laundry laundry = new Laundry();
    private final Orders orders = new Orders();
    private final Contest contest = new Contest();
    private final Linen asked = new Linen();
    private final int[] tally = new int[MOST_LODGERS * MOST_LODGERS];
    private int ruleCount;
    private House draft = new House();

    public LinenName() {
        for (int k = 0; k < images.length; k++) {
            images[k] = new Image();
        }
    }

    // The texts.

    public int feed(int a, int b, int c, int d, int e) {
        if (!tape.hasRoom()) {
            return NONE;
        }
        tape.put(a);
        tape.put(b);
        tape.put(c);
        tape.put(d);
        tape.put(e);
        return tape.size;
    }

    public int end(int n) {
        if (n < 0 || n > tape.size) {
            return NONE;
        }
        tape.size = n;
        return n;
    }

    public int house() {
        if (!houseReader.reads(tape, draft)) {
            return NOTHING_SUCH - tape.fault;
        }
        House before = now.house;
        now.house = draft;
        draft = before;
        now.house.lay(now.linen);
        now.notes = 0;
        past.forget();
        tape.size = 0;
        return now.house.lodgers;
    }

    public int rule() {
        if (ruleCount >= MOST_RULES) {
            return NONE;
        }
        Rule read = ruleReader.read(tape);
        // unlike a house, a rule with a fault takes its text with it
        tape.size = 0;
        if (read == null) {
            return NOTHING_SUCH - tape.fault;
        }
        rules[ruleCount] = read;
        ruleCount++;
        return ruleCount - 1;
    }

    public int force(int rule) {
        if (rule < NONE || rule >= ruleCount) {
            return NOTHING_SUCH;
        }
        int before = now.inForce;
        now.inForce = rule;
        return before;
    }

    // How it is.

    public int lodger(int lodger, int what) {
        if (!isLodger(lodger)) {
            return NONE;
        }
        switch (what) {
            case 0: return now.house.wants[lodger];
            case 1: return now.linen.on[lodger];
            case 2: return now.linen.isLet(now.house, lodger) ? 1 : 0;
            case 3: return now.linen.was[lodger];
            default: return NONE;
        }
    }

    public int sheet(int sheet, int what) {
        if (!isLodger(sheet)) {
            return NONE;
        }
        switch (what) {
            case 0: return now.linen.grade[sheet];
            case 1: return now.linen.worn[sheet];
            case 2: return now.linen.bedOf(sheet, now.house.lodgers);
            default: return NONE;
        }
    }

    public int count(int what) {
        switch (what) {
            case 0: return now.house.lasts;
            case 1: return now.house.starch;
            case 2: return now.house.lodgers;
            case 3: return now.house.mixes;
            case 4: return ruleCount;
            case 5: return now.inForce;
            case 6: return now.linen.week;
            case 7: return now.linen.letBits(now.house);
            case 8: return now.linen.homeBits(now.house.lodgers);
            case 9: return now.linen.allWas(now.house.lodgers);
            case 10: return now.notes;
            case 11: return past.size;
            case 12: return now.x;
            case 13: return tape.size;
            default: return NONE;
        }
    }

    // Acts.

    public int week() {
        if (!now.house.stands || now.linen.week >= LAST_WEEK) {
            return NONE;
        }
        past.keep(now.linen);
        return laundry.passWeek(now.house, now.linen, ruleOf(now.inForce), NONE);
    }

    public int swap(int one, int other) {
        if (!isLodger(one) || !isLodger(other) || one == other) {
            return NONE;
        }
        past.keep(now.linen);
        now.linen.change(one, other);
        return now.linen.on[one];
    }

    public int starch(int sheet) {
        if (!isLodger(sheet) || now.house.starch == 0) {
            return NONE;
        }
        past.keep(now.linen);
        int stiffer = now.linen.grade[sheet] + now.house.starch;
        now.linen.grade[sheet] = Math.min(stiffer, MOST_GRADE);
        return now.linen.grade[sheet];
    }

    public int darn(int sheet) {
        if (!isLodger(sheet) || now.linen.worn[sheet] == 0) {
            return NONE;
        }
        past.keep(now.linen);
        int worn = now.linen.worn[sheet];
        now.linen.worn[sheet] = 0;
        return worn;
    }

    public int undo() {
        if (past.size == 0) {
            return NONE;
        }
        past.bringBack(now.linen);
        return past.size;
    }

    // How it goes on.

    public int ahead(int number, int n, int what) {
        if (!isLodger(number) || !isWithin(n, 0, LONGEST_AHEAD) || !isWithin(what, 0, 2)) {
            return NONE;
        }
        goOn(n, NONE);
        if (what == 0) {
            return asked.on[number];
        }
        return what == 1 ? asked.grade[number] : asked.was[number];
    }

    public int lets(int lodger, int n) {
        if (!now.house.stands || !isWithin(n, 0, LONGEST_AHEAD)) {
            return NONE;
        }
        if (n == 0) {
            return now.linen.letBits(now.house);
        }
        if (!isLodger(lodger)) {
            return NONE;
        }
        goOn(n, NONE);
        return asked.was[lodger] - now.linen.was[lodger];
    }

    public int turned(int sheet) {
        if (!isLodger(sheet)) {
            return NONE;
        }
        return now.linen.week + now.house.lasts - now.linen.worn[sheet] - 1;
    }

    public int thin() {
        if (!now.house.stands) {
            return NONE;
        }
        int first = NOTHING_SUCH;
        int mostWorn = NONE;
        for (int sheet = 0; sheet < now.house.lodgers; sheet++) {
            if (now.linen.worn[sheet] > mostWorn) {
                mostWorn = now.linen.worn[sheet];
                first = sheet;
            }
        }
        return first;
    }

    public int home() {
        if (!now.house.stands) {
            return NONE;
        }
        asked.copyFrom(now.linen);
        for (int i = 0; i < LONGEST_AHEAD; i++) {
            if (asked.changesHome(now.house.lodgers) == 0) {
                return asked.week;
            }
            laundry.passWeek(now.house, asked, ruleOf(now.inForce), NONE);
        }
        return NOTHING_SUCH;
    }

    public int carves(int n, int what) {
        if (!now.house.stands || !isWithin(n, 1, LONGEST_PLAN) || !isWithin(what, 0, 1)) {
            return NONE;
        }
        goOn(n, NONE);
        int who = NOTHING_SUCH;
        int most = NONE;
        for (int lodger = 0; lodger < now.house.lodgers; lodger++) {
            int often = asked.was[lodger] - now.linen.was[lodger];
            if (often > most) {
                most = often;
                who = lodger;
            }
        }
        return what == 0 ? who : Math.max(most, 0);
    }

    public int lock(int n, int what) {
        if (!now.house.stands || !isWithin(n, 1, LONGEST_PLAN) || !isWithin(what, 0, 1)) {
            return NOTHING_SUCH;
        }
        int best = NONE;
        int most = NONE;
        for (int locked = NONE; locked < now.house.lodgers; locked++) {
            goOn(n, locked);
            int often = asked.allWas(now.house.lodgers) - now.linen.allWas(now.house.lodgers);
            if (often > most) {
                most = often;
                best = locked;
            }
        }
        return what == 0 ? best : most;
    }

    public int laundries(int m, int n, int p, int what) {
        if (!now.house.stands || !isWithin(m, 1, MOST_TIMES) || !isWithin(n, 1, LONGEST_PLAN)
                || !isWithin(p, 0, 100) || !isWithin(what, 0, 1)) {
            return NONE;
        }
        int x = now.x;
        int often = 0;
        int homes = 0;
        for (int time = 0; time < m; time++) {
            asked.copyFrom(now.linen);
            for (int i = 0; i < n; i++) {
                x = mixByDraws(x, p);
                int let = laundry.passWeek(now.house, asked, ruleOf(now.inForce), NONE);
                often += Integer.bitCount(let);
            }
            homes += Integer.bitCount(asked.homeBits(now.house.lodgers));
        }
        return what == 0 ? often : homes;
    }

    public int seed(int x) {
        if (x < 0) {
            return NONE;
        }
        int before = now.x;
        now.x = x;
        return before;
    }

    // Rings and changes.

    public int ring(int bed, int what) {
        if (!isLodger(bed) || !isWithin(what, 0, 1)) {
            return NONE;
        }
        int bits = now.linen.ringBits(bed);
        return what == 0 ? Integer.bitCount(bits) : bits;
    }

    public int right(int what) {
        if (!now.house.stands || !isWithin(what, 0, 2)) {
            return NONE;
        }
        if (what == 0) {
            return now.linen.changesHome(now.house.lodgers);
        }
        for (int bed = 0; bed < now.house.lodgers; bed++) {
            if (now.linen.on[bed] != bed) {
                return what == 1 ? bed : now.linen.bedOf(bed, now.house.lodgers);
            }
        }
        return NOTHING_SUCH;
    }

    public int even() {
        if (!now.house.stands) {
            return NONE;
        }
        return now.linen.changesHome(now.house.lodgers) % 2 == 0 ? 1 : 0;
    }

    public int twos(int what) {
        return firstOfPairs(what, true);
    }

    public int nearer(int what) {
        return firstOfPairs(what, false);
    }

    public int most(int what) {
        if (!now.house.stands || !isWithin(what, NONE, MOST_LODGERS - 1)) {
            return NOT_ASKED_SO;
        }
        int most = orders.findMost(now.house, now.linen);
        return orders.tell(what, most, now.house.lodgers);
    }

    public int told(int lodgers, int what) {
        if (!now.house.stands || !isWithin(what, NONE, MOST_LODGERS - 1)
                || !isWithin(lodgers, 0, (1 << now.house.lodgers) - 1)) {
            return NOT_ASKED_SO;
        }
        int fewest = orders.findTold(now.house, now.linen, lodgers);
        return fewest == NONE ? NOTHING_SUCH : orders.tell(what, fewest, now.house.lodgers);
    }

    public int pence(int much, int lodger) {
        if (!isLodger(lodger) || !isWithin(much, 0, MOST_PENCE)) {
            return NONE;
        }
        int[] was = now.linen.was;
        int all = now.linen.allWas(now.house.lodgers);
        if (all == 0) {
            return 0;
        }
        int left = much;
        int served = 0;
        int lost = much * was[lodger] % all;
        for (int i = 0; i < now.house.lodgers; i++) {
            left -= much * was[i] / all;
            int lostByThem = much * was[i] % all;
            if (lostByThem > lost || lostByThem == lost && i < lodger) {
                served++;
            }
        }
        return much * was[lodger] / all + (served < left ? 1 : 0);
    }

    public int game(int one, int other, int n, int what) {
        if (!isLodger(one) || !isLodger(other) || one == other
                || !isWithin(n, 1, MOST_TURNS) || !isWithin(what, 0, 2)) {
            return NO_GAME;
        }
        int worth = contest.play(now.house.lodgers, now.linen, one, other, n);
        if (what == 0) {
            return worth;
        }
        return what == 1 ? contest.firstBed : contest.secondBed;
    }

    // By which rule it was.

    public int note(int n, int bed, int sheet) {
        if (n == NONE) {
            now.notes = 0;
            return 0;
        }
        if (!isWithin(n, 0, LONGEST_PLAN) || !isLodger(bed) || !isLodger(sheet) || now.notes >= MOST_NOTES) {
            return NOTHING_SUCH;
        }
        now.noteWeeks[now.notes] = n;
        now.noteBeds[now.notes] = bed;
        now.noteSheets[now.notes] = sheet;
        now.notes++;
        return now.notes;
    }

    public int ruled(int what) {
        if (!now.house.stands || !isWithin(what, 0, 1)) {
            return NOT_ASKED_SO;
        }
        int howMany = 0;
        int first = NOTHING_SUCH;
        for (int rule = NONE; rule < ruleCount; rule++) {
            if (bearsOutNotes(rule)) {
                first = howMany == 0 ? rule : first;
                howMany++;
            }
        }
        return what == 0 ? howMany : first;
    }

    public int look(int n, int what) {
        if (!now.house.stands || !isWithin(n, 0, LONGEST_PLAN) || !isWithin(what, 0, 1)) {
            return NONE;
        }
        Arrays.fill(tally, 0);
        for (int rule = NONE; rule < ruleCount; rule++) {
            if (bearsOutNotes(rule)) {
                tallySheets(rule, n);
            }
        }
        int best = NOTHING_SUCH;
        int fewest = NOTHING_SUCH;
        for (int bed = 0; bed < now.house.lodgers; bed++) {
            int alike = mostAlike(bed);
            if (alike > 0 && (best == NOTHING_SUCH || alike < fewest)) {
                best = bed;
                fewest = alike;
            }
        }
        return what == 0 ? best : fewest;
    }

    // Images.

    public int image(int k) {
        if (!isWithin(k, 0, MOST_IMAGES - 1)) {
            return NONE;
        }
        images[k].copyFrom(now);
        images[k].made = true;
        return now.linen.week;
    }

    public int back(int k) {
        if (!isWithin(k, 0, MOST_IMAGES - 1) || !images[k].made) {
            return NONE;
        }
        now.copyFrom(images[k]);
        past.forget();
        return now.linen.week;
    }

    // What the calls share.

    private static boolean isWithin(int number, int least, int greatest) {
        return number >= least && number <= greatest;
    }

    /** Lodgers, beds and sheets have the same numbers; without a house there are none. */
    private boolean isLodger(int number) {
        return number >= 0 && number < now.house.lodgers;
    }

    private Rule ruleOf(int number) {
        return number >= 0 && number < ruleCount ? rules[number] : null;
    }

    private void goOn(int weeks, int locked) {
        asked.copyFrom(now.linen);
        Rule rule = ruleOf(now.inForce);
        for (int i = 0; i < weeks; i++) {
            laundry.passWeek(now.house, asked, rule, locked);
        }
    }

    private int firstOfPairs(int what, boolean forBoth) {
        if (!now.house.stands || !isWithin(what, 0, 2)) {
            return NONE;
        }
        int howMany = 0;
        int first = NOTHING_SUCH;
        for (int one = 0; one < now.house.lodgers; one++) {
            for (int other = one + 1; other < now.house.lodgers; other++) {
                if (forBoth ? betterForBoth(one, other) : comesNearer(one, other)) {
                    howMany++;
                    if (howMany == 1) {
                        first = what == 1 ? one : other;
                    }
                }
            }
        }
        return what == 0 ? howMany : first;
    }

    private boolean betterForBoth(int one, int other) {
        int ones = now.linen.on[one];
        int others = now.linen.on[other];
        return whatOneHas(one, others) > whatOneHas(one, ones)
            && whatOneHas(other, ones) > whatOneHas(other, others);
    }

    private int whatOneHas(int lodger, int sheet) {
        return Math.min(0, now.linen.grade[sheet] - now.house.wants[lodger]);
    }

    /** A change within a ring makes two of it, each change between rings one of two. */
    private boolean comesNearer(int one, int other) {
        return (now.linen.ringBits(one) >> other & 1) != 0;
    }

    private static int nextX(int x) {
        return (int) ((x * 1103515245L + 12345L) % 2147483648L);
    }

    private static int drawOf(int x) {
        return x / 65536;
    }

    /** Changes two beds of the linen that is asked about, if the draws say so: x behind the draws. */
    private int mixByDraws(int x, int percent) {
        int lodgers = now.house.lodgers;
        int drawn = nextX(x);
        if (drawOf(drawn) % 100 >= percent || lodgers < 2) {
            return drawn;
        }
        drawn = nextX(drawn);
        int one = drawOf(drawn) % lodgers;
        drawn = nextX(drawn);
        int further = drawOf(drawn) % (lodgers - 1) + 1;
        asked.change(one, (one + further) % lodgers);
        return drawn;
    }

    private boolean bearsOutNotes(int rule) {
        int last = now.lastNoted();
        now.house.lay(asked);
        for (int passed = 0; passed < last && !now.contradicts(passed, asked); passed++) {
            laundry.passWeek(now.house, asked, ruleOf(rule), NONE);
        }
        return !now.contradicts(asked.week, asked);
    }

    /** Counts which sheet a rule puts on each bed behind so many weeks of all. */
    private void tallySheets(int rule, int weeks) {
        now.house.lay(asked);
        for (int i = 0; i < weeks; i++) {
            laundry.passWeek(now.house, asked, ruleOf(rule), NONE);
        }
        for (int bed = 0; bed < now.house.lodgers; bed++) {
            tally[bed * MOST_LODGERS + asked.on[bed]]++;
        }
    }

    private int mostAlike(int bed) {
        int most = 0;
        for (int sheet = 0; sheet < now.house.lodgers; sheet++) {
            most = Math.max(most, tally[bed * MOST_LODGERS + sheet]);
        }
        return most;
    }

    /** The bytes that were fed, and the signs, words and numbers that are read from them. */
    private static final class Tape {
        static final int MOST_BYTES = 400;
        static final int BYTES_A_FEED = 20;
        static final int MOST_DIGITS = 5;

        // Kinds of what is read; any other byte is its own kind.
        static final int END = 256;
        static final int NUMBER = 257;
        static final int WORD = 258;
        static final int LESS_OR_SAME = 259;
        static final int MORE_OR_SAME = 260;

        static final int OUT_OF_PLACE = 0;
        static final int WRONG_NUMBER = 1;
        static final int TOO_DEEP = 2;
        static final int TOO_MANY_VALUES = 3;
        static final int TOO_MANY_CLAUSES = 4;

        private final byte[] bytes = new byte[MOST_BYTES];
        int size;
        int fault;
        int kind;
        private int start;
        private int next;

        boolean hasRoom() {
            return size + BYTES_A_FEED <= MOST_BYTES;
        }

        void put(int four) {
            for (int shift = 24; shift >= 0; shift -= 8) {
                if (size < MOST_BYTES) {
                    bytes[size] = (byte) (four >>> shift);
                    size++;
                }
            }
        }

        void rewind() {
            fault = 0;
            next = 0;
            step();
        }

        void step() {
            start = behind(next, ' ', ' ');
            kind = byteAt(start);
            next = start + 1;
            if (kind == END) {
                next = start;
            } else if (kind >= '0' && kind <= '9') {
                kind = NUMBER;
                next = behind(start, '0', '9');
            } else if (kind >= 'a' && kind <= 'z') {
                kind = WORD;
                next = behind(start, 'a', 'z');
            } else if ((kind == '<' || kind == '>') && byteAt(next) == '=') {
                kind = kind == '<' ? LESS_OR_SAME : MORE_OR_SAME;
                next++;
            }
        }

        boolean isWord(String word) {
            return isWordIn(word, 0, word.length());
        }

        /** Whether the word here is the one that stands in words at a place, filled up with blanks to a width. */
        boolean isWordIn(String words, int place, int width) {
            int length = next - start;
            boolean same = kind == WORD && length <= width && place + width <= words.length();
            for (int i = 0; same && i < width; i++) {
                same = words.charAt(place + i) == (i < length ? byteAt(start + i) : ' ');
            }
            return same;
        }

        boolean isTooLong() {
            return next - start > MOST_DIGITS;
        }

        int number() {
            int number = 0;
            for (int i = start; i < next && i < start + MOST_DIGITS; i++) {
                number = number * 10 + byteAt(i) - '0';
            }
            return number;
        }

        /** The number that stands here, and steps on; NONE, and a fault, if there is none as told. */
        int takeNumber(int least, int greatest) {
            if (kind != NUMBER) {
                fail(OUT_OF_PLACE);
                return NONE;
            }
            int taken = number();
            if (isTooLong() || taken < least || taken > greatest) {
                fail(WRONG_NUMBER);
                return NONE;
            }
            step();
            return taken;
        }

        /** Keeps a fault at what was read last; false, for the reader to hand on. */
        boolean fail(int code) {
            fault = 1 + 8 * start + code;
            return false;
        }

        private int byteAt(int place) {
            return place >= 0 && place < size ? bytes[place] & 255 : END;
        }

        /** The place behind all bytes from here on that lie between two. */
        private int behind(int from, int least, int greatest) {
            int place = from;
            boolean goesOn = true;
            for (int i = from; goesOn && i < size; i++) {
                int sign = bytes[i] & 255;
                goesOn = sign >= least && sign <= greatest;
                place = goesOn ? i + 1 : place;
            }
            return place;
        }
    }

    /** Reads the text of a house. */
    private static final class HouseReader {
        private static final int MOST_CLAUSES = 40;

        boolean reads(Tape tape, House house) {
            house.clear();
            tape.rewind();
            for (int clauses = 0; clauses <= MOST_CLAUSES; clauses++) {
                if (!readsClause(tape, house, clauses)) {
                    return false;
                }
                if (tape.kind == Tape.END) {
                    house.stands = true;
                    return true;
                }
                if (tape.kind != ';') {
                    return tape.fail(Tape.OUT_OF_PLACE);
                }
                tape.step();
            }
            return false;
        }

        private static boolean readsClause(Tape tape, House house, int clauses) {
            boolean isHouse = tape.isWord("house");
            boolean isLodger = tape.isWord("lodger");
            boolean isMix = tape.isWord("mix");
            if (!isHouse && !isLodger && !isMix) {
                return tape.fail(Tape.OUT_OF_PLACE);
            }
            if (clauses >= MOST_CLAUSES || isHouse != (clauses == 0)
                    || isLodger && house.lodgers >= MOST_LODGERS || isMix && house.mixes >= MOST_MIXES) {
                return tape.fail(Tape.TOO_MANY_CLAUSES);
            }
            tape.step();
            if (isHouse) {
                return readsHouse(tape, house);
            }
            return isLodger ? readsLodger(tape, house) : readsMix(tape, house);
        }

        private static boolean readsHouse(Tape tape, House house) {
            house.lasts = tape.takeNumber(1, 30);
            house.starch = house.lasts == NONE ? NONE : tape.takeNumber(0, 9);
            return house.starch != NONE;
        }

        private static boolean readsLodger(Tape tape, House house) {
            int grade = tape.takeNumber(0, 20);
            int wants = grade == NONE ? NONE : tape.takeNumber(0, 20);
            if (wants == NONE) {
                return false;
            }
            house.grades[house.lodgers] = grade;
            house.wants[house.lodgers] = wants;
            house.lodgers++;
            return true;
        }

        private static boolean readsMix(Tape tape, House house) {
            int week = tape.takeNumber(0, 60);
            int one = week == NONE ? NONE : tape.takeNumber(0, house.lodgers - 1);
            if (one == NONE) {
                return false;
            }
            if (tape.kind == Tape.NUMBER && tape.number() == one) {
                return tape.fail(Tape.WRONG_NUMBER);
            }
            int other = tape.takeNumber(0, house.lodgers - 1);
            if (other == NONE) {
                return false;
            }
            house.mixWeeks[house.mixes] = week;
            house.mixOnes[house.mixes] = one;
            house.mixOthers[house.mixes] = other;
            house.mixes++;
            return true;
        }
    }

    /** Reads the text of a rule into code for a stack: what is counted stands ahead of its sign. */
    private static final class RuleReader {
        private static final int MOST_CLAUSES = 12;
        private static final int MOST_COUNTED = 60;
        private static final int DEEPEST = 10;
        private static final int WORD_WIDTH = 6;
        /** In the order of Rule's numbers of words, each as wide as the widest. */
        private static final String WORDS =
            "one   other grade gradeowants wantsoworn  worno home  lets  was   week  ";

        private final int[] code = new int[Tape.MOST_BYTES];
        private final int[] ends = new int[2 * MOST_CLAUSES];
        private Tape tape;
        private int size;
        private int counted;

        /** The rule that the tape tells; null, and the tape knows the fault, if it tells none. */
        Rule read(Tape text) {
            tape = text;
            size = 0;
            counted = 0;
            tape.rewind();
            for (int clauses = 0; clauses <= MOST_CLAUSES; clauses++) {
                if (!readsClause(clauses)) {
                    return null;
                }
                if (tape.kind == Tape.END) {
                    return new Rule(Arrays.copyOf(code, size), Arrays.copyOf(ends, 2 * clauses + 2));
                }
                if (tape.kind != ';') {
                    tape.fail(Tape.OUT_OF_PLACE);
                    return null;
                }
                tape.step();
            }
            return null;
        }

        private boolean readsClause(int clauses) {
            if (!tape.isWord("fold")) {
                return tape.fail(Tape.OUT_OF_PLACE);
            }
            if (clauses >= MOST_CLAUSES) {
                return tape.fail(Tape.TOO_MANY_CLAUSES);
            }
            tape.step();
            if (!readsSum()) {
                return false;
            }
            ends[2 * clauses] = size;
            if (tape.isWord("if")) {
                tape.step();
                if (!readsTest(0)) {
                    return false;
                }
            }
            ends[2 * clauses + 1] = size;
            return true;
        }

        private boolean readsTest(int depth) {
            boolean good = readsPart(depth);
            for (int i = 0; good && i < MOST_COUNTED && tape.isWord("or"); i++) {
                tape.step();
                good = readsPart(depth) && writes(Rule.OR);
            }
            return good;
        }

        private boolean readsPart(int depth) {
            boolean good = readsFact(depth);
            for (int i = 0; good && i < MOST_COUNTED && tape.isWord("and"); i++) {
                tape.step();
                good = readsFact(depth) && writes(Rule.AND);
            }
            return good;
        }

        private boolean readsFact(int depth) {
            boolean isNot = tape.isWord("not");
            if (isNot || tape.kind == '[') {
                return depth < DEEPEST ? readsWithin(isNot, depth + 1) : tape.fail(Tape.TOO_DEEP);
            }
            if (!readsSum()) {
                return false;
            }
            int sign = comparisonOf(tape.kind);
            if (sign == NONE) {
                return tape.fail(Tape.OUT_OF_PLACE);
            }
            if (counted >= MOST_COUNTED) {
                return tape.fail(Tape.TOO_MANY_VALUES);
            }
            counted++;
            tape.step();
            return readsSum() && writes(sign);
        }

        private boolean readsWithin(boolean isNot, int depth) {
            tape.step();
            if (isNot) {
                return readsFact(depth) && writes(Rule.NOT);
            }
            if (!readsTest(depth)) {
                return false;
            }
            if (tape.kind != ']') {
                return tape.fail(Tape.OUT_OF_PLACE);
            }
            tape.step();
            return true;
        }

        /** A + or - waits until the whole term behind it is written. */
        private boolean readsSum() {
            int waiting = NONE;
            boolean good = readsValue();
            for (int i = 0; good && i < MOST_COUNTED && operationOf(tape.kind) != NONE; i++) {
                int sign = operationOf(tape.kind);
                tape.step();
                if (sign == Rule.ADD || sign == Rule.SUBTRACT) {
                    good = (waiting == NONE || writes(waiting)) && readsValue();
                    waiting = sign;
                } else {
                    good = readsValue() && writes(sign);
                }
            }
            return good && (waiting == NONE || writes(waiting));
        }

        private boolean readsValue() {
            boolean isNumber = tape.kind == Tape.NUMBER;
            int word = NONE;
            for (int i = 0; i < Rule.WORDS && word == NONE; i++) {
                word = tape.isWordIn(WORDS, i * WORD_WIDTH, WORD_WIDTH) ? i : NONE;
            }
            if (!isNumber && word == NONE) {
                return tape.fail(Tape.OUT_OF_PLACE);
            }
            if (isNumber && tape.isTooLong()) {
                return tape.fail(Tape.WRONG_NUMBER);
            }
            if (counted >= MOST_COUNTED) {
                return tape.fail(Tape.TOO_MANY_VALUES);
            }
            counted++;
            int sign = isNumber ? Rule.NUMBER + (tape.number() << Rule.SIGN_BITS) : word;
            tape.step();
            return writes(sign);
        }

        /** Each sign has a byte of its own on the tape, so there is always room. */
        private boolean writes(int sign) {
            if (size >= code.length) {
                return false;
            }
            code[size] = sign;
            size++;
            return true;
        }

        private static int comparisonOf(int kind) {
            switch (kind) {
                case '<': return Rule.LESS;
                case Tape.LESS_OR_SAME: return Rule.LESS_OR_SAME;
                case '=': return Rule.SAME;
                case Tape.MORE_OR_SAME: return Rule.MORE_OR_SAME;
                case '>': return Rule.MORE;
                default: return NONE;
            }
        }

        private static int operationOf(int kind) {
            switch (kind) {
                case '+': return Rule.ADD;
                case '-': return Rule.SUBTRACT;
                case '*': return Rule.TIMES;
                case '/': return Rule.DIVIDE;
                case '%': return Rule.REST;
                default: return NONE;
            }
        }
    }

    /** A rule as code for a stack, and what it is worth to change two beds by it. */
    private static final class Rule {
        static final int ONE = 0;
        static final int OTHER = 1;
        static final int GRADE = 2;
        static final int GRADE_OTHER = 3;
        static final int WANTS = 4;
        static final int WANTS_OTHER = 5;
        static final int WORN = 6;
        static final int WORN_OTHER = 7;
        static final int HOME = 8;
        static final int LETS = 9;
        static final int WAS = 10;
        static final int WEEK = 11;
        static final int WORDS = 12;

        static final int NUMBER = 12;
        static final int ADD = 13;
        static final int SUBTRACT = 14;
        static final int TIMES = 15;
        static final int DIVIDE = 16;
        static final int REST = 17;
        static final int LESS = 18;
        static final int LESS_OR_SAME = 19;
        static final int SAME = 20;
        static final int MORE_OR_SAME = 21;
        static final int MORE = 22;
        static final int NOT = 23;
        static final int AND = 24;
        static final int OR = 25;

        /** A number stands above the bits of its sign. */
        static final int SIGN_BITS = 5;
        private static final int SIGN_MASK = 31;

        private final int[] code;
        /** Of each clause, where its sum ends and where its test does (the same, without a test). */
        private final int[] ends;

        Rule(int[] code, int[] ends) {
            this.code = code;
            this.ends = ends;
        }

        long worth(long[] words, long[] stack) {
            int from = 0;
            for (int i = 0; i + 1 < ends.length; i += 2) {
                int sumEnd = ends[i];
                int testEnd = ends[i + 1];
                if (sumEnd == testEnd || run(sumEnd, testEnd, words, stack) != 0) {
                    return run(from, sumEnd, words, stack);
                }
                from = testEnd;
            }
            return 0;
        }

        private long run(int from, int to, long[] words, long[] stack) {
            int top = 0;
            for (int i = from; i < to && i < code.length; i++) {
                int sign = code[i] & SIGN_MASK;
                if (sign <= NUMBER) {
                    if (top < stack.length) {
                        stack[top] = sign == NUMBER ? code[i] >> SIGN_BITS : words[sign];
                        top++;
                    }
                } else if (sign == NOT) {
                    if (top > 0) {
                        stack[top - 1] = stack[top - 1] == 0 ? 1 : 0;
                    }
                } else if (top > 1) {
                    top--;
                    stack[top - 1] = joined(sign, stack[top - 1], stack[top]);
                }
            }
            return top > 0 ? stack[top - 1] : 0;
        }

        private static long joined(int sign, long a, long b) {
            switch (sign) {
                case ADD: return a + b;
                case SUBTRACT: return a - b;
                case TIMES: return a * b;
                case DIVIDE: return b == 0 ? 0 : a / b;
                case REST: return b == 0 ? 0 : a % b;
                case LESS: return a < b ? 1 : 0;
                case LESS_OR_SAME: return a <= b ? 1 : 0;
                case SAME: return a == b ? 1 : 0;
                case MORE_OR_SAME: return a >= b ? 1 : 0;
                case MORE: return a > b ? 1 : 0;
                case AND: return a & b;
                default: return a | b;
            }
        }
    }

    /** What the text of a house told. */
    private static final class House {
        boolean stands;
        int lasts;
        int starch;
        int lodgers;
        int mixes;
        final int[] grades = new int[MOST_LODGERS];
        final int[] wants = new int[MOST_LODGERS];
        final int[] mixWeeks = new int[MOST_MIXES];
        final int[] mixOnes = new int[MOST_MIXES];
        final int[] mixOthers = new int[MOST_MIXES];

        void clear() {
            stands = false;
            lasts = 0;
            starch = 0;
            lodgers = 0;
            mixes = 0;
        }

        void copyFrom(House from) {
            stands = from.stands;
            lasts = from.lasts;
            starch = from.starch;
            lodgers = from.lodgers;
            mixes = from.mixes;
            System.arraycopy(from.grades, 0, grades, 0, MOST_LODGERS);
            System.arraycopy(from.wants, 0, wants, 0, MOST_LODGERS);
            System.arraycopy(from.mixWeeks, 0, mixWeeks, 0, MOST_MIXES);
            System.arraycopy(from.mixOnes, 0, mixOnes, 0, MOST_MIXES);
            System.arraycopy(from.mixOthers, 0, mixOthers, 0, MOST_MIXES);
        }

        /** Lays the linen as it is at the begin. */
        void lay(Linen linen) {
            linen.week = 0;
            for (int i = 0; i < MOST_LODGERS; i++) {
                linen.on[i] = i;
                linen.grade[i] = grades[i];
                linen.worn[i] = 0;
                linen.was[i] = 0;
            }
        }
    }

    /** What the weeks and acts change: a row for beds, two for sheets, one for lodgers. */
    private static final class Linen {
        final int[] on = new int[MOST_LODGERS];
        final int[] grade = new int[MOST_LODGERS];
        final int[] worn = new int[MOST_LODGERS];
        final int[] was = new int[MOST_LODGERS];
        int week;

        void copyFrom(Linen from) {
            System.arraycopy(from.on, 0, on, 0, MOST_LODGERS);
            System.arraycopy(from.grade, 0, grade, 0, MOST_LODGERS);
            System.arraycopy(from.worn, 0, worn, 0, MOST_LODGERS);
            System.arraycopy(from.was, 0, was, 0, MOST_LODGERS);
            week = from.week;
        }

        void change(int one, int other) {
            int sheet = on[one];
            on[one] = on[other];
            on[other] = sheet;
        }

        int bedOf(int sheet, int lodgers) {
            for (int bed = 0; bed < lodgers; bed++) {
                if (on[bed] == sheet) {
                    return bed;
                }
            }
            return NONE;
        }

        boolean isLet(House house, int lodger) {
            return grade[on[lodger]] >= house.wants[lodger];
        }

        int letBits(House house) {
            int bits = 0;
            for (int lodger = 0; lodger < house.lodgers; lodger++) {
                if (isLet(house, lodger)) {
                    bits |= 1 << lodger;
                }
            }
            return bits;
        }

        int homeBits(int lodgers) {
            int bits = 0;
            for (int bed = 0; bed < lodgers; bed++) {
                if (on[bed] == bed) {
                    bits |= 1 << bed;
                }
            }
            return bits;
        }

        int allWas(int lodgers) {
            int all = 0;
            for (int lodger = 0; lodger < lodgers; lodger++) {
                all += was[lodger];
            }
            return all;
        }

        int ringBits(int bed) {
            int bits = 0;
            int at = bed;
            for (int i = 0; i < MOST_LODGERS && (bits >> at & 1) == 0; i++) {
                bits |= 1 << at;
                at = on[at];
            }
            return bits;
        }

        /** A ring of so many beds takes one change less than it has beds. */
        int changesHome(int lodgers) {
            int seen = 0;
            int rings = 0;
            for (int bed = 0; bed < lodgers; bed++) {
                if ((seen >> bed & 1) == 0) {
                    seen |= ringBits(bed);
                    rings++;
                }
            }
            return lodgers - rings;
        }

        void endWeek(House house, int let) {
            for (int i = 0; i < house.lodgers; i++) {
                was[i] += let >> i & 1;
                worn[i]++;
                if (worn[i] >= house.lasts) {
                    worn[i] = 0;
                    grade[i] /= 2;
                }
            }
            week++;
        }
    }

    /** All but the tape and the rules: as it is now, or as it was. */
    private static final class Image {
        House house = new House();
        final Linen linen = new Linen();
        final int[] noteWeeks = new int[MOST_NOTES];
        final int[] noteBeds = new int[MOST_NOTES];
        final int[] noteSheets = new int[MOST_NOTES];
        int notes;
        int inForce = NONE;
        int x;
        boolean made;

        void copyFrom(Image from) {
            house.copyFrom(from.house);
            linen.copyFrom(from.linen);
            System.arraycopy(from.noteWeeks, 0, noteWeeks, 0, MOST_NOTES);
            System.arraycopy(from.noteBeds, 0, noteBeds, 0, MOST_NOTES);
            System.arraycopy(from.noteSheets, 0, noteSheets, 0, MOST_NOTES);
            notes = from.notes;
            inForce = from.inForce;
            x = from.x;
        }

        int lastNoted() {
            int last = 0;
            for (int i = 0; i < notes; i++) {
                last = Math.max(last, noteWeeks[i]);
            }
            return last;
        }

        boolean contradicts(int passed, Linen then) {
            for (int i = 0; i < notes; i++) {
                if (noteWeeks[i] == passed && then.on[noteBeds[i]] != noteSheets[i]) {
                    return true;
                }
            }
            return false;
        }
    }

    /** The linen ahead of each of the last acts, the oldest overwritten first. */
    private static final class Past {
        private final Linen[] kept = new Linen[MOST_UNDONE];
        private int newest;
        int size;

        Past() {
            for (int i = 0; i < MOST_UNDONE; i++) {
                kept[i] = new Linen();
            }
        }

        void keep(Linen linen) {
            newest = (newest + 1) % MOST_UNDONE;
            kept[newest].copyFrom(linen);
            size = Math.min(size + 1, MOST_UNDONE);
        }

        void bringBack(Linen linen) {
            linen.copyFrom(kept[newest]);
            newest = (newest + MOST_UNDONE - 1) % MOST_UNDONE;
            size--;
        }

        void forget() {
            size = 0;
        }
    }

    /** Lets weeks pass. */
    private static final class Laundry {
        private static final int DEEPEST_STACK = 64;

        private final long[] words = new long[Rule.WORDS];
        private final long[] stack = new long[DEEPEST_STACK];

        /** A week by a rule (null: none), a bed taking no part (NONE: all do): who is let, as bits. */
        int passWeek(House house, Linen linen, Rule rule, int locked) {
            mixUp(house, linen, locked);
            if (rule != null) {
                fold(house, linen, rule, locked);
            }
            int let = linen.letBits(house);
            linen.endWeek(house, let);
            return let;
        }

        private static void mixUp(House house, Linen linen, int locked) {
            for (int i = 0; i < house.mixes; i++) {
                int one = house.mixOnes[i];
                int other = house.mixOthers[i];
                if (house.mixWeeks[i] == linen.week && one != locked && other != locked) {
                    linen.change(one, other);
                }
            }
        }

        private void fold(House house, Linen linen, Rule rule, int locked) {
            words[Rule.HOME] = Integer.bitCount(linen.homeBits(house.lodgers));
            words[Rule.LETS] = Integer.bitCount(linen.letBits(house));
            words[Rule.WEEK] = linen.week;
            long most = 0;
            int bestOne = NONE;
            int bestOther = NONE;
            for (int one = 0; one < house.lodgers; one++) {
                for (int other = one + 1; other < house.lodgers; other++) {
                    if (one != locked && other != locked) {
                        setWords(house, linen, one, other);
                        long worth = rule.worth(words, stack);
                        if (worth > most) {
                            most = worth;
                            bestOne = one;
                            bestOther = other;
                        }
                    }
                }
            }
            if (bestOne != NONE) {
                linen.change(bestOne, bestOther);
            }
        }

        private void setWords(House house, Linen linen, int one, int other) {
            words[Rule.ONE] = one;
            words[Rule.OTHER] = other;
            words[Rule.GRADE] = linen.grade[linen.on[one]];
            words[Rule.GRADE_OTHER] = linen.grade[linen.on[other]];
            words[Rule.WANTS] = house.wants[one];
            words[Rule.WANTS_OTHER] = house.wants[other];
            words[Rule.WORN] = linen.worn[linen.on[one]];
            words[Rule.WORN_OTHER] = linen.worn[linen.on[other]];
            words[Rule.WAS] = linen.was[one];
        }
    }

    /** Orders of sheets on beds that are the best of all. */
    private static final class Orders {
        private final int[] order = new int[MOST_LODGERS];
        private final int[] mostLet = new int[1 << MOST_LODGERS];
        /** Ahead of each bed, which beds are joined by what was laid so far: these have one number. */
        private final int[][] joined = new int[MOST_LODGERS + 1][MOST_LODGERS];
        private House house;
        private Linen linen;
        private int mustBeLet;

        int tell(int what, int howMany, int lodgers) {
            if (what == NONE) {
                return howMany;
            }
            return what >= 0 && what < lodgers ? order[what] : NOTHING_SUCH;
        }

        int findMost(House asked, Linen from) {
            house = asked;
            linen = from;
            int all = (1 << house.lodgers) - 1;
            mostLet[all] = 0;
            for (int laid = all - 1; laid >= 0; laid--) {
                int bed = Integer.bitCount(laid);
                int best = bestSheet(laid, bed);
                mostLet[laid] = letWith(laid, bed, best);
            }
            int laid = 0;
            for (int bed = 0; bed < house.lodgers; bed++) {
                order[bed] = bestSheet(laid, bed);
                laid |= 1 << order[bed];
            }
            return mostLet[0];
        }

        /** Of the sheets not laid yet the least that lets most, on this bed and those behind it. */
        private int bestSheet(int laid, int bed) {
            int best = NONE;
            for (int sheet = 0; sheet < house.lodgers; sheet++) {
                if ((laid >> sheet & 1) == 0 && letWith(laid, bed, sheet) > letWith(laid, bed, best)) {
                    best = sheet;
                }
            }
            return best;
        }

        /** Any sheet lets more than none (NONE). */
        private int letWith(int laid, int bed, int sheet) {
            int then = laid | 1 << sheet;
            if (sheet == NONE || !isWithin(then, 0, mostLet.length - 1)) {
                return NONE;
            }
            int here = linen.grade[sheet] >= house.wants[bed] ? 1 : 0;
            return here + mostLet[then];
        }

        /** The fewest changes by which all of the set are let; NONE, if there are none such. */
        int findTold(House asked, Linen from, int set) {
            house = asked;
            linen = from;
            mustBeLet = set;
            for (int bed = 0; bed < MOST_LODGERS; bed++) {
                joined[0][bed] = bed;
            }
            for (int changes = 0; changes <= house.lodgers; changes++) {
                if (laysFrom(0, 0, changes)) {
                    return changes;
                }
            }
            return NONE;
        }

        private boolean laysFrom(int bed, int laid, int changes) {
            boolean done = bed >= house.lodgers;
            for (int sheet = 0; !done && sheet < house.lodgers; sheet++) {
                done = (laid >> sheet & 1) == 0 && lays(sheet, bed, laid, changes);
            }
            return done;
        }

        private boolean lays(int sheet, int bed, int laid, int changes) {
            boolean must = (mustBeLet >> bed & 1) != 0;
            int from = linen.bedOf(sheet, house.lodgers);
            if (from == NONE || must && linen.grade[sheet] < house.wants[bed]) {
                return false;
            }
            int left = changes - join(bed, from);
            order[bed] = sheet;
            return left >= 0 && laysFrom(bed + 1, laid | 1 << sheet, left);
        }

        /** Joins a bed to the one its sheet comes from: a change, or none, if that closes a ring. */
        private int join(int bed, int from) {
            int kept = joined[bed][bed];
            int gone = joined[bed][from];
            for (int i = 0; i < MOST_LODGERS; i++) {
                joined[bed + 1][i] = joined[bed][i] == gone ? kept : joined[bed][i];
            }
            return kept == gone ? 0 : 1;
        }
    }

    /** The game of two. */
    private static final class Contest {
        private final Linen linen = new Linen();
        private int lodgers;
        private int one;
        private int other;
        int firstBed;
        int secondBed;

        int play(int howMany, Linen from, int first, int second, int turns) {
            linen.copyFrom(from);
            lodgers = howMany;
            one = first;
            other = second;
            return worth(0, turns);
        }

        private int worth(int turn, int turns) {
            if (turn >= turns) {
                return linen.grade[linen.on[one]] - linen.grade[linen.on[other]];
            }
            boolean isFirsts = turn % 2 == 0;
            int best = worthBehind(0, 0, turn, turns);
            int bestA = NONE;
            int bestB = NONE;
            for (int a = 0; a < lodgers; a++) {
                for (int b = a + 1; b < lodgers; b++) {
                    int reached = worthBehind(a, b, turn, turns);
                    if (isFirsts ? reached > best : reached < best) {
                        best = reached;
                        bestA = a;
                        bestB = b;
                    }
                }
            }
            if (turn == 0) {
                firstBed = bestA;
                secondBed = bestB;
            }
            return best;
        }

        /** A bed that is changed with itself stands for no change. */
        private int worthBehind(int a, int b, int turn, int turns) {
            linen.change(a, b);
            int reached = worth(turn + 1, turns);
            linen.change(a, b);
            return reached;
        }
    }
}
