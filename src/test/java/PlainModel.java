import java.util.ArrayDeque;
import java.util.ArrayList;
import java.util.Arrays;
import java.util.Comparator;
import java.util.HashMap;
import java.util.List;
import java.util.Map;

/** The document once more, as slowly and plainly as can be: texts as trees, orders by searching all of them. */
final class PlainModel {
    interface Value {
        long of(State s, int one, int other);
    }

    record Clause(Value sum, Value test) { }

    record Told(int lasts, int starch, List<int[]> lodgers, List<int[]> mixes) { }

    /** Thrown at a fault of a text. */
    static final class Fault extends RuntimeException {
        private static final long serialVersionUID = 1;

        final int number;

        Fault(int place, int code) {
            super(null, null, false, false);
            number = 1 + 8 * place + code;
        }
    }

    static final class State {
        Told house;
        int[] on = {};
        int[] grade = {};
        int[] worn = {};
        int[] was = {};
        int week;
        List<int[]> notes = new ArrayList<>();
        int force = -1;
        int x;

        State copy() {
            State s = new State();
            s.house = house;
            s.on = on.clone();
            s.grade = grade.clone();
            s.worn = worn.clone();
            s.was = was.clone();
            s.week = week;
            s.notes = new ArrayList<>(notes);
            s.force = force;
            s.x = x;
            return s;
        }

        int size() {
            return on.length;
        }

        void begin() {
            int n = house.lodgers.size();
            on = new int[n];
            grade = new int[n];
            worn = new int[n];
            was = new int[n];
            week = 0;
            for (int i = 0; i < n; i++) {
                on[i] = i;
                grade[i] = house.lodgers.get(i)[0];
            }
        }

        int wants(int lodger) {
            return house.lodgers.get(lodger)[1];
        }

        boolean let(int lodger) {
            return grade[on[lodger]] >= wants(lodger);
        }

        int letBits() {
            int bits = 0;
            for (int i = 0; i < size(); i++) {
                bits += let(i) ? 1 << i : 0;
            }
            return bits;
        }

        int homeBits() {
            int bits = 0;
            for (int i = 0; i < size(); i++) {
                bits += on[i] == i ? 1 << i : 0;
            }
            return bits;
        }

        int total() {
            return Arrays.stream(was).sum();
        }
    }

    private final ArrayList<Byte> tape = new ArrayList<>();
    private final List<List<Clause>> rules = new ArrayList<>();
    private final Map<Integer, State> images = new HashMap<>();
    private final ArrayDeque<State> past = new ArrayDeque<>();
    private State s = new State();

    // ---- texts

    private List<String> signs;
    private List<Integer> places;
    private int at;
    private int counted;

    private void split() {
        signs = new ArrayList<>();
        places = new ArrayList<>();
        StringBuilder text = new StringBuilder();
        for (byte b : tape) {
            text.append((char) (b & 255));
        }
        java.util.regex.Matcher m = java.util.regex.Pattern
            .compile(" +|[0-9]+|[a-z]+|<=|>=|.", java.util.regex.Pattern.DOTALL).matcher(text);
        while (m.find()) {
            if (m.group().charAt(0) != ' ') {
                signs.add(m.group());
                places.add(m.start());
            }
        }
        signs.add("");
        places.add(text.length());
        at = 0;
        counted = 0;
    }

    private String here() {
        return signs.get(at);
    }

    private Fault bad(int code) {
        return new Fault(places.get(at), code);
    }

    private boolean isNumber() {
        return here().matches("[0-9]+");
    }

    private int number(int least, int most, int not) {
        if (!isNumber()) {
            throw bad(0);
        }
        if (here().length() > 5) {
            throw bad(1);
        }
        int number = Integer.parseInt(here());
        if (number < least || number > most || number == not) {
            throw bad(1);
        }
        at++;
        return number;
    }

    private boolean more() {
        if (here().equals(";")) {
            at++;
            return true;
        }
        if (!here().isEmpty()) {
            throw bad(0);
        }
        return false;
    }

    private Told readHouse() {
        split();
        Told told = null;
        int clauses = 0;
        do {
            String word = here();
            if (!List.of("house", "lodger", "mix").contains(word)) {
                throw bad(0);
            }
            clauses++;
            if (clauses > 40 || word.equals("house") == (told != null)
                || word.equals("lodger") && told.lodgers.size() == 7 || word.equals("mix") && told.mixes.size() == 8) {
                throw bad(4);
            }
            at++;
            if (told == null) {
                told = new Told(number(1, 30, -1), number(0, 9, -1), new ArrayList<>(), new ArrayList<>());
            } else if (word.equals("lodger")) {
                told.lodgers.add(new int[] {number(0, 20, -1), number(0, 20, -1)});
            } else {
                int week = number(0, 60, -1);
                int one = number(0, told.lodgers.size() - 1, -1);
                told.mixes.add(new int[] {week, one, number(0, told.lodgers.size() - 1, one)});
            }
        } while (more());
        return told;
    }

    private List<Clause> readRule() {
        split();
        List<Clause> clauses = new ArrayList<>();
        do {
            if (!here().equals("fold")) {
                throw bad(0);
            }
            if (clauses.size() == 12) {
                throw bad(4);
            }
            at++;
            Value sum = readSum();
            Value test = (st, a, b) -> 1;
            if (here().equals("if")) {
                at++;
                test = readTest(0);
            }
            clauses.add(new Clause(sum, test));
        } while (more());
        return clauses;
    }

    private Value readTest(int deep) {
        List<Value> parts = new ArrayList<>();
        parts.add(readPart(deep));
        while (here().equals("or")) {
            at++;
            parts.add(readPart(deep));
        }
        return (st, a, b) -> parts.stream().anyMatch(p -> p.of(st, a, b) != 0) ? 1 : 0;
    }

    private Value readPart(int deep) {
        List<Value> facts = new ArrayList<>();
        facts.add(readFact(deep));
        while (here().equals("and")) {
            at++;
            facts.add(readFact(deep));
        }
        return (st, a, b) -> facts.stream().allMatch(p -> p.of(st, a, b) != 0) ? 1 : 0;
    }

    private Value readFact(int deep) {
        if (here().equals("not") || here().equals("[")) {
            if (deep == 10) {
                throw bad(2);
            }
            boolean not = here().equals("not");
            at++;
            if (not) {
                Value fact = readFact(deep + 1);
                return (st, a, b) -> 1 - fact.of(st, a, b);
            }
            Value test = readTest(deep + 1);
            if (!here().equals("]")) {
                throw bad(0);
            }
            at++;
            return test;
        }
        Value left = readSum();
        String sign = here();
        if (!List.of("<", "<=", "=", ">=", ">").contains(sign)) {
            throw bad(0);
        }
        countOne();
        at++;
        Value right = readSum();
        return (st, a, b) -> {
            int order = Long.compare(left.of(st, a, b), right.of(st, a, b));
            boolean holds = order < 0 ? sign.contains("<") : order == 0 ? sign.contains("=") : sign.contains(">");
            return holds ? 1 : 0;
        };
    }

    private void countOne() {
        if (counted == 60) {
            throw bad(3);
        }
        counted++;
    }

    private Value readSum() {
        Value sum = readTerm();
        while (here().equals("+") || here().equals("-")) {
            int factor = here().equals("+") ? 1 : -1;
            at++;
            Value left = sum;
            Value term = readTerm();
            sum = (st, a, b) -> left.of(st, a, b) + factor * term.of(st, a, b);
        }
        return sum;
    }

    private Value readTerm() {
        Value term = readValue();
        while (!here().isEmpty() && "*/%".contains(here())) {
            String sign = here();
            at++;
            Value left = term;
            Value right = readValue();
            term = (st, a, b) -> {
                long l = left.of(st, a, b);
                long r = right.of(st, a, b);
                if (sign.equals("*")) {
                    return l * r;
                }
                if (r == 0) {
                    return 0;
                }
                return sign.equals("/") ? l / r : l - l / r * r;
            };
        }
        return term;
    }

    private static final List<String> WORDS = List.of("one", "other", "grade", "gradeo", "wants", "wantso",
        "worn", "worno", "home", "lets", "was", "week");

    private Value readValue() {
        String sign = here();
        boolean digits = isNumber();
        if (!digits && !WORDS.contains(sign)) {
            throw bad(0);
        }
        if (digits && sign.length() > 5) {
            throw bad(1);
        }
        countOne();
        at++;
        if (digits) {
            long number = Long.parseLong(sign);
            return (st, a, b) -> number;
        }
        return (st, a, b) -> word(sign, st, a, b);
    }

    private static long word(String word, State st, int a, int b) {
        return switch (word) {
            case "one" -> a;
            case "other" -> b;
            case "grade" -> st.grade[st.on[a]];
            case "gradeo" -> st.grade[st.on[b]];
            case "wants" -> st.wants(a);
            case "wantso" -> st.wants(b);
            case "worn" -> st.worn[st.on[a]];
            case "worno" -> st.worn[st.on[b]];
            case "home" -> Integer.bitCount(st.homeBits());
            case "lets" -> Integer.bitCount(st.letBits());
            case "was" -> st.was[a];
            default -> st.week;
        };
    }

    // ---- weeks

    private static void change(State st, int a, int b) {
        int kept = st.on[a];
        st.on[a] = st.on[b];
        st.on[b] = kept;
    }

    private int pass(State st, int rule, int locked) {
        for (int[] mix : st.house.mixes) {
            if (mix[0] == st.week && mix[1] != locked && mix[2] != locked) {
                change(st, mix[1], mix[2]);
            }
        }
        if (rule >= 0) {
            long most = 0;
            int[] best = null;
            for (int a = 0; a < st.size(); a++) {
                for (int b = a + 1; b < st.size(); b++) {
                    if (a == locked || b == locked) {
                        continue;
                    }
                    long worth = 0;
                    for (Clause clause : rules.get(rule)) {
                        if (clause.test.of(st, a, b) != 0) {
                            worth = clause.sum.of(st, a, b);
                            break;
                        }
                    }
                    if (worth > most) {
                        most = worth;
                        best = new int[] {a, b};
                    }
                }
            }
            if (best != null) {
                change(st, best[0], best[1]);
            }
        }
        int let = st.letBits();
        for (int i = 0; i < st.size(); i++) {
            st.was[i] += st.let(i) ? 1 : 0;
        }
        for (int i = 0; i < st.size(); i++) {
            st.worn[i]++;
            if (st.worn[i] == st.house.lasts) {
                st.worn[i] = 0;
                st.grade[i] = Math.floorDiv(st.grade[i], 2);
            }
        }
        st.week++;
        return let;
    }

    private State later(int n, int locked) {
        State st = s.copy();
        for (int i = 0; i < n; i++) {
            pass(st, s.force, locked);
        }
        return st;
    }

    private boolean none() {
        return s.house == null;
    }

    private boolean is(int number) {
        return number >= 0 && number < s.size();
    }

    private static boolean in(int number, int least, int most) {
        return number >= least && number <= most;
    }

    private void keep() {
        past.addLast(s.copy());
        if (past.size() > 20) {
            past.removeFirst();
        }
    }

    // ---- the face

    int feed(int a, int b, int c, int d, int e) {
        if (tape.size() > 380) {
            return -1;
        }
        for (int four : new int[] {a, b, c, d, e}) {
            for (byte one : java.nio.ByteBuffer.allocate(4).putInt(four).array()) {
                tape.add(one);
            }
        }
        return tape.size();
    }

    int end(int n) {
        if (n < 0 || n > tape.size()) {
            return -1;
        }
        while (tape.size() > n) {
            tape.remove(tape.size() - 1);
        }
        return n;
    }

    int house() {
        try {
            s.house = readHouse();
        } catch (Fault f) {
            return -2 - f.number;
        }
        s.begin();
        s.notes.clear();
        past.clear();
        tape.clear();
        return s.size();
    }

    int rule() {
        if (rules.size() == 6) {
            return -1;
        }
        try {
            rules.add(readRule());
        } catch (Fault f) {
            tape.clear();
            return -2 - f.number;
        }
        tape.clear();
        return rules.size() - 1;
    }

    int force(int rule) {
        if (!in(rule, -1, rules.size() - 1)) {
            return -2;
        }
        int was = s.force;
        s.force = rule;
        return was;
    }

    int lodger(int lodger, int what) {
        if (!is(lodger) || !in(what, 0, 3)) {
            return -1;
        }
        return new int[] {s.wants(lodger), s.on[lodger], s.let(lodger) ? 1 : 0, s.was[lodger]}[what];
    }

    int sheet(int sheet, int what) {
        if (!is(sheet) || !in(what, 0, 2)) {
            return -1;
        }
        return new int[] {s.grade[sheet], s.worn[sheet], Arrays.stream(s.on).boxed().toList().indexOf(sheet)}[what];
    }

    int week() {
        if (none() || s.week == 999) {
            return -1;
        }
        keep();
        return pass(s, s.force, -1);
    }

    int swap(int one, int other) {
        if (!is(one) || !is(other) || one == other) {
            return -1;
        }
        keep();
        change(s, one, other);
        return s.on[one];
    }

    int starch(int sheet) {
        if (!is(sheet) || s.house.starch == 0) {
            return -1;
        }
        keep();
        s.grade[sheet] += s.house.starch;
        if (s.grade[sheet] > 99) {
            s.grade[sheet] = 99;
        }
        return s.grade[sheet];
    }

    int darn(int sheet) {
        if (!is(sheet) || s.worn[sheet] == 0) {
            return -1;
        }
        keep();
        int was = s.worn[sheet];
        s.worn[sheet] = 0;
        return was;
    }

    int undo() {
        if (past.isEmpty()) {
            return -1;
        }
        State before = past.removeLast();
        before.notes = s.notes;
        before.force = s.force;
        before.x = s.x;
        s = before;
        return past.size();
    }

    int ahead(int number, int n, int what) {
        if (!is(number) || !in(n, 0, 100) || !in(what, 0, 2)) {
            return -1;
        }
        State st = later(n, -1);
        return new int[] {st.on[number], st.grade[number], st.was[number]}[what];
    }

    int lets(int lodger, int n) {
        if (none() || !in(n, 0, 100)) {
            return -1;
        }
        if (n == 0) {
            return s.letBits();
        }
        return is(lodger) ? later(n, -1).was[lodger] - s.was[lodger] : -1;
    }

    private List<Integer> ringOf(int bed) {
        List<Integer> ring = new ArrayList<>();
        int b = bed;
        do {
            ring.add(b);
            b = s.on[b];
        } while (b != bed);
        return ring;
    }

    int ring(int bed, int what) {
        if (!is(bed) || !in(what, 0, 1)) {
            return -1;
        }
        List<Integer> ring = ringOf(bed);
        return what == 0 ? ring.size() : ring.stream().mapToInt(b -> 1 << b).sum();
    }

    private static final Map<String, Map<String, Integer>> REACHED = new HashMap<>();

    /** How many changes each order is from one order on, by going all ways at once. */
    private static Map<String, Integer> distances(int[] from) {
        String start = Arrays.toString(from);
        Map<String, Integer> known = REACHED.get(start);
        if (known != null) {
            return known;
        }
        Map<String, Integer> far = new HashMap<>();
        ArrayDeque<int[]> next = new ArrayDeque<>();
        far.put(start, 0);
        next.add(from.clone());
        while (!next.isEmpty()) {
            int[] order = next.remove();
            int steps = far.get(Arrays.toString(order));
            for (int a = 0; a < order.length; a++) {
                for (int b = 0; b < a; b++) {
                    int[] changed = order.clone();
                    changed[a] = order[b];
                    changed[b] = order[a];
                    if (far.putIfAbsent(Arrays.toString(changed), steps + 1) == null) {
                        next.add(changed);
                    }
                }
            }
        }
        if (REACHED.size() > 60) {
            REACHED.clear();
        }
        REACHED.put(start, far);
        return far;
    }

    private int farFromHome(int[] order) {
        int[] home = new int[order.length];
        Arrays.setAll(home, i -> i);
        return distances(home).get(Arrays.toString(order));
    }

    int right(int what) {
        if (none() || !in(what, 0, 2)) {
            return -1;
        }
        if (what == 0) {
            return farFromHome(s.on);
        }
        for (int bed = 0; bed < s.size(); bed++) {
            if (s.on[bed] != bed) {
                return what == 1 ? bed : sheet(bed, 2);
            }
        }
        return -2;
    }

    int even() {
        return none() ? -1 : 1 - farFromHome(s.on) % 2;
    }

    private static void orders(int n, List<Integer> begun, List<int[]> all) {
        if (begun.size() == n) {
            all.add(begun.stream().mapToInt(i -> i).toArray());
        }
        for (int i = 0; i < n; i++) {
            if (!begun.contains(i)) {
                begun.add(i);
                orders(n, begun, all);
                begun.remove(begun.size() - 1);
            }
        }
    }

    private static final Map<Integer, List<int[]>> ALL_ORDERS = new HashMap<>();

    private static List<int[]> allOrders(int n) {
        return ALL_ORDERS.computeIfAbsent(n, k -> {
            List<int[]> all = new ArrayList<>();
            orders(k, new ArrayList<>(), all);
            return all;
        });
    }

    private int letBits(int[] order) {
        State st = s.copy();
        st.on = order;
        return st.letBits();
    }

    int most(int what) {
        if (none() || !in(what, -1, 6)) {
            return -3;
        }
        int most = -1;
        int[] best = null;
        for (int[] order : allOrders(s.size())) {
            int let = Integer.bitCount(letBits(order));
            if (let > most) {
                most = let;
                best = order;
            }
        }
        return what == -1 ? most : what < s.size() ? best[what] : -2;
    }

    int told(int lodgers, int what) {
        if (none() || !in(what, -1, 6) || lodgers < 0 || lodgers >= 1 << s.size()) {
            return -3;
        }
        int fewest = 99;
        int[] best = null;
        Map<String, Integer> far = distances(s.on);
        for (int[] order : allOrders(s.size())) {
            if ((letBits(order) & lodgers) == lodgers) {
                int steps = far.get(Arrays.toString(order));
                if (steps < fewest) {
                    fewest = steps;
                    best = order;
                }
            }
        }
        if (best == null) {
            return -2;
        }
        return what == -1 ? fewest : what < s.size() ? best[what] : -2;
    }

    private int has(int[] order, int lodger) {
        int over = s.grade[order[lodger]] - s.wants(lodger);
        return over > 0 ? 0 : over;
    }

    private int pairs(int what, boolean two) {
        if (none() || !in(what, 0, 2)) {
            return -1;
        }
        List<int[]> found = new ArrayList<>();
        for (int a = 0; a < s.size(); a++) {
            for (int b = a + 1; b < s.size(); b++) {
                int[] changed = s.on.clone();
                changed[a] = s.on[b];
                changed[b] = s.on[a];
                boolean better = has(changed, a) > has(s.on, a) && has(changed, b) > has(s.on, b);
                if (two ? better : farFromHome(changed) == farFromHome(s.on) - 1) {
                    found.add(new int[] {a, b});
                }
            }
        }
        return what == 0 ? found.size() : found.isEmpty() ? -2 : found.get(0)[what - 1];
    }

    int twos(int what) {
        return pairs(what, true);
    }

    int nearer(int what) {
        return pairs(what, false);
    }

    int turned(int sheet) {
        if (!is(sheet)) {
            return -1;
        }
        State st = s.copy();
        while (true) {
            pass(st, s.force, -1);
            if (st.worn[sheet] == 0) {
                return st.week - 1;
            }
        }
    }

    int thin() {
        if (none()) {
            return -1;
        }
        int best = -2;
        for (int sheet = 0; sheet < s.size(); sheet++) {
            if (best == -2 || turned(sheet) < turned(best)) {
                best = sheet;
            }
        }
        return best;
    }

    int home() {
        if (none()) {
            return -1;
        }
        for (int i = 0; i < 100; i++) {
            State st = later(i, -1);
            if (st.homeBits() == (1 << s.size()) - 1) {
                return st.week;
            }
        }
        return -2;
    }

    int carves(int n, int what) {
        if (none() || !in(n, 1, 60) || !in(what, 0, 1)) {
            return -1;
        }
        int who = -2;
        for (int i = 0; i < s.size(); i++) {
            if (who == -2 || lets(i, n) > lets(who, n)) {
                who = i;
            }
        }
        return what == 0 ? who : who == -2 ? 0 : lets(who, n);
    }

    int lock(int n, int what) {
        if (none() || !in(n, 1, 60) || !in(what, 0, 1)) {
            return -2;
        }
        int best = -1;
        for (int bed = 0; bed < s.size(); bed++) {
            if (later(n, bed).total() > later(n, best).total()) {
                best = bed;
            }
        }
        return what == 0 ? best : later(n, best).total() - s.total();
    }

    int pence(int much, int lodger) {
        if (!is(lodger) || !in(much, 0, 9999)) {
            return -1;
        }
        int total = s.total();
        if (total == 0) {
            return 0;
        }
        int[] part = new int[s.size()];
        List<Integer> order = new ArrayList<>();
        int left = much;
        for (int i = 0; i < s.size(); i++) {
            part[i] = much * s.was[i] / total;
            left -= part[i];
            order.add(i);
        }
        order.sort(Comparator.comparingInt(i -> part[i] * total - much * s.was[i]));
        for (int i = 0; i < left; i++) {
            part[order.get(i)]++;
        }
        return part[lodger];
    }

    private int[] play(int[] order, int one, int other, int turn, int n) {
        if (turn == n) {
            return new int[] {s.grade[order[one]] - s.grade[order[other]], -1, -1};
        }
        int[] best = null;
        for (int a = -1; a < s.size() - 1; a++) {
            for (int b = a < 0 ? -1 : a + 1; b < (a < 0 ? 0 : s.size()); b++) {
                int[] changed = order.clone();
                if (a >= 0) {
                    changed[a] = order[b];
                    changed[b] = order[a];
                }
                int worth = play(changed, one, other, turn + 1, n)[0];
                if (best == null || (turn == 1 ? worth < best[0] : worth > best[0])) {
                    best = new int[] {worth, a, b};
                }
            }
        }
        return best;
    }

    int game(int one, int other, int n, int what) {
        if (!is(one) || !is(other) || one == other || !in(n, 1, 3) || !in(what, 0, 2)) {
            return -1000;
        }
        return play(s.on, one, other, 0, n)[what];
    }

    int note(int n, int bed, int sheet) {
        if (n == -1) {
            s.notes.clear();
            return 0;
        }
        if (!in(n, 0, 60) || !is(bed) || !is(sheet) || s.notes.size() == 10) {
            return -2;
        }
        s.notes.add(new int[] {n, bed, sheet});
        return s.notes.size();
    }

    private State behind(int rule, int n) {
        State st = s.copy();
        st.begin();
        for (int i = 0; i < n; i++) {
            pass(st, rule, -1);
        }
        return st;
    }

    private List<Integer> so() {
        List<Integer> so = new ArrayList<>();
        for (int rule = -1; rule < rules.size(); rule++) {
            int r = rule;
            if (s.notes.stream().allMatch(note -> behind(r, note[0]).on[note[1]] == note[2])) {
                so.add(rule);
            }
        }
        return so;
    }

    int ruled(int what) {
        if (none() || !in(what, 0, 1)) {
            return -3;
        }
        List<Integer> so = so();
        return what == 0 ? so.size() : so.isEmpty() ? -2 : so.get(0);
    }

    int look(int n, int what) {
        if (none() || !in(n, 0, 60) || !in(what, 0, 1)) {
            return -1;
        }
        List<Integer> so = so();
        if (so.isEmpty() || s.size() == 0) {
            return -2;
        }
        int best = -1;
        int fewest = 99;
        for (int bed = 0; bed < s.size(); bed++) {
            Map<Integer, Integer> alike = new HashMap<>();
            for (int rule : so) {
                alike.merge(behind(rule, n).on[bed], 1, Integer::sum);
            }
            int most = alike.values().stream().mapToInt(i -> i).max().getAsInt();
            if (most < fewest) {
                fewest = most;
                best = bed;
            }
        }
        return what == 0 ? best : fewest;
    }

    int seed(int x) {
        if (x < 0) {
            return -1;
        }
        int was = s.x;
        s.x = x;
        return was;
    }

    private long drawn;

    private int draw() {
        drawn = (drawn * 1103515245L + 12345L) % 2147483648L;
        return (int) (drawn / 65536);
    }

    int laundries(int m, int n, int p, int what) {
        if (none() || !in(m, 1, 10) || !in(n, 1, 60) || !in(p, 0, 100) || !in(what, 0, 1)) {
            return -1;
        }
        drawn = s.x;
        int often = 0;
        int homes = 0;
        for (int i = 0; i < m; i++) {
            State st = s.copy();
            for (int j = 0; j < n; j++) {
                if (draw() % 100 < p && st.size() > 1) {
                    int bed = draw() % st.size();
                    int further = draw() % (st.size() - 1) + 1;
                    int other = bed;
                    for (int k = 0; k < further; k++) {
                        other = other == st.size() - 1 ? 0 : other + 1;
                    }
                    change(st, bed, other);
                }
                often += Integer.bitCount(pass(st, s.force, -1));
            }
            homes += Integer.bitCount(st.homeBits());
        }
        return what == 0 ? often : homes;
    }

    int count(int what) {
        if (!in(what, 0, 13)) {
            return -1;
        }
        boolean no = none();
        return new int[] {no ? 0 : s.house.lasts, no ? 0 : s.house.starch, s.size(), no ? 0 : s.house.mixes.size(),
            rules.size(), s.force, s.week, s.letBits(), s.homeBits(), s.total(), s.notes.size(), past.size(), s.x,
            tape.size()}[what];
    }

    int image(int k) {
        if (!in(k, 0, 3)) {
            return -1;
        }
        images.put(k, s.copy());
        return s.week;
    }

    int back(int k) {
        if (!images.containsKey(k)) {
            return -1;
        }
        s = images.get(k).copy();
        past.clear();
        return s.week;
    }
}
