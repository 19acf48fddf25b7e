import java.util.ArrayDeque;
import java.util.ArrayList;
import java.util.Arrays;
import java.util.Deque;
import java.util.HashMap;
import java.util.List;
import java.util.Map;
import java.util.function.Predicate;
import java.util.function.ToLongFunction;

/** The document once more, written for plainness alone: trees, copies and exceptions. */
final class Model {
    static final class Fault extends RuntimeException {
        private static final long serialVersionUID = 1;
        final int number;

        Fault(int place, int kind) {
            number = 1 + 8 * place + kind;
        }
    }

    static final class Vessel implements Cloneable {
        int hold, cost, months, blocks;
        int town = -1;
        boolean dust;

        Vessel copy() {
            Vessel v = new Vessel();
            v.hold = hold;
            v.cost = cost;
            v.months = months;
            v.blocks = blocks;
            v.town = town;
            v.dust = dust;
            return v;
        }
    }

    static final class Place {
        int months, heat, want, price, stock, sold;
        boolean house;

        Place copy() {
            Place p = new Place();
            p.months = months;
            p.heat = heat;
            p.want = want;
            p.price = price;
            p.stock = stock;
            p.sold = sold;
            p.house = house;
            return p;
        }
    }

    static final class State {
        int money, wage, pond, month;
        int[] frost = new int[12];
        List<Vessel> ships = new ArrayList<>();
        List<Place> towns = new ArrayList<>();

        State copy() {
            State s = new State();
            s.money = money;
            s.wage = wage;
            s.pond = pond;
            s.month = month;
            s.frost = frost.clone();
            for (Vessel v : ships) {
                s.ships.add(v.copy());
            }
            for (Place p : towns) {
                s.towns.add(p.copy());
            }
            return s;
        }
    }

    record Clause(ToLongFunction<Map<String, Long>> sum, Predicate<Map<String, Long>> test) { }

    record Note(int month, int money) { }

    record Image(State now, State begin, int force, long x, List<Note> notes) { }

    record Plan(int money, int a, int b, int c) { }

    byte[] tape = new byte[0];
    State now;
    State begin;
    final List<List<Clause>> rules = new ArrayList<>();
    int force = -1;
    long x;
    List<Note> notes = new ArrayList<>();
    Deque<State> past = new ArrayDeque<>();
    final Map<Integer, Image> images = new HashMap<>();

    // ---- texts

    /** Reads byte by byte, from left to right, and stops at the first fault. */
    static final class Parser {
        final byte[] text;
        int at = 0;
        int parts = 0;

        Parser(byte[] text) {
            this.text = text;
        }

        int peek() {
            while (at < text.length && text[at] == 32) {
                at++;
            }
            return at < text.length ? text[at] & 255 : -1;
        }

        String peekWord() {
            peek();
            StringBuilder word = new StringBuilder();
            for (int i = at; i < text.length && text[i] >= 'a' && text[i] <= 'z'; i++) {
                word.append((char) text[i]);
            }
            return word.toString();
        }

        Fault fault(int kind) {
            peek();
            return new Fault(at, kind);
        }

        boolean skipWord(String word) {
            if (!peekWord().equals(word)) {
                return false;
            }
            at += word.length();
            return true;
        }

        boolean skip(char sign) {
            if (peek() != sign) {
                return false;
            }
            at++;
            return true;
        }

        int number(int least, int most) {
            int first = peek();
            if (first < '0' || first > '9') {
                throw fault(0);
            }
            int to = at;
            while (to < text.length && text[to] >= '0' && text[to] <= '9') {
                to++;
            }
            if (to - at > 5) {
                throw fault(1);
            }
            int value = Integer.parseInt(new String(text, at, to - at, java.nio.charset.StandardCharsets.ISO_8859_1));
            if (value < least || value > most) {
                throw fault(1);
            }
            at = to;
            return value;
        }

        State trade() {
            State s = new State();
            int clauses = 0;
            do {
                String word = peekWord();
                if (!List.of("trade", "frost", "ship", "town", "house").contains(word)) {
                    throw fault(0);
                }
                boolean first = clauses == 0;
                clauses++;
                if (clauses > 40 || first != word.equals("trade") || word.equals("ship") && s.ships.size() == 3
                        || word.equals("town") && s.towns.size() == 4) {
                    throw fault(4);
                }
                skipWord(word);
                if (word.equals("trade")) {
                    s.money = number(0, 9999);
                    s.wage = number(0, 20);
                    s.pond = number(0, 999);
                } else if (word.equals("frost")) {
                    int month = number(0, 11);
                    s.frost[month] = number(1, 99);
                } else if (word.equals("ship")) {
                    Vessel v = new Vessel();
                    v.hold = number(1, 99);
                    v.cost = number(0, 99);
                    s.ships.add(v);
                } else if (word.equals("town")) {
                    Place p = new Place();
                    p.months = number(1, 6);
                    p.heat = number(0, 60);
                    p.want = number(0, 99);
                    p.price = number(1, 99);
                    s.towns.add(p);
                } else {
                    s.towns.get(number(0, s.towns.size() - 1)).house = true;
                }
            } while (skip(';'));
            if (peek() != -1) {
                throw fault(0);
            }
            return s;
        }

        List<Clause> rule() {
            List<Clause> clauses = new ArrayList<>();
            do {
                if (!peekWord().equals("sail")) {
                    throw fault(0);
                }
                if (clauses.size() == 12) {
                    throw fault(4);
                }
                skipWord("sail");
                ToLongFunction<Map<String, Long>> sum = sum();
                clauses.add(new Clause(sum, skipWord("if") ? test(0) : env -> true));
            } while (skip(';'));
            if (peek() != -1) {
                throw fault(0);
            }
            return clauses;
        }

        Predicate<Map<String, Long>> test(int depth) {
            Predicate<Map<String, Long>> all = part(depth);
            while (skipWord("or")) {
                all = all.or(part(depth));
            }
            return all;
        }

        Predicate<Map<String, Long>> part(int depth) {
            Predicate<Map<String, Long>> all = fact(depth);
            while (skipWord("and")) {
                all = all.and(fact(depth));
            }
            return all;
        }

        Predicate<Map<String, Long>> fact(int depth) {
            if (peekWord().equals("not") || peek() == '[') {
                if (depth == 10) {
                    throw fault(2);
                }
            }
            if (skipWord("not")) {
                return fact(depth + 1).negate();
            }
            if (skip('[')) {
                Predicate<Map<String, Long>> inner = test(depth + 1);
                if (!skip(']')) {
                    throw fault(0);
                }
                return inner;
            }
            ToLongFunction<Map<String, Long>> left = sum();
            int sign = peek();
            if (sign != '<' && sign != '=' && sign != '>') {
                throw fault(0);
            }
            if (parts == 60) {
                throw fault(3);
            }
            parts++;
            at++;
            boolean also = sign != '=' && at < text.length && text[at] == '=';
            if (also) {
                at++;
            }
            ToLongFunction<Map<String, Long>> right = sum();
            return env -> {
                int c = Long.compare(left.applyAsLong(env), right.applyAsLong(env));
                return sign == '=' ? c == 0 : c == 0 ? also : sign == '<' ? c < 0 : c > 0;
            };
        }

        ToLongFunction<Map<String, Long>> sum() {
            ToLongFunction<Map<String, Long>> all = term();
            while (true) {
                ToLongFunction<Map<String, Long>> left = all;
                if (skip('+')) {
                    ToLongFunction<Map<String, Long>> right = term();
                    all = env -> left.applyAsLong(env) + right.applyAsLong(env);
                } else if (skip('-')) {
                    ToLongFunction<Map<String, Long>> right = term();
                    all = env -> left.applyAsLong(env) - right.applyAsLong(env);
                } else {
                    return all;
                }
            }
        }

        ToLongFunction<Map<String, Long>> term() {
            ToLongFunction<Map<String, Long>> all = value();
            while (true) {
                ToLongFunction<Map<String, Long>> left = all;
                if (skip('*')) {
                    ToLongFunction<Map<String, Long>> right = value();
                    all = env -> left.applyAsLong(env) * right.applyAsLong(env);
                } else if (skip('/')) {
                    ToLongFunction<Map<String, Long>> right = value();
                    all = env -> right.applyAsLong(env) == 0 ? 0 : left.applyAsLong(env) / right.applyAsLong(env);
                } else if (skip('%')) {
                    ToLongFunction<Map<String, Long>> right = value();
                    all = env -> right.applyAsLong(env) == 0 ? 0 : left.applyAsLong(env) % right.applyAsLong(env);
                } else {
                    return all;
                }
            }
        }

        ToLongFunction<Map<String, Long>> value() {
            String word = peekWord();
            int place = at;
            ToLongFunction<Map<String, Long>> value;
            if (List.of("ship", "town", "months", "heat", "want", "price", "stock", "coming", "pond", "hold",
                    "money", "month", "house").contains(word)) {
                skipWord(word);
                value = env -> env.get(word);
            } else {
                long number = number(0, 99999);
                value = env -> number;
            }
            if (parts == 60) {
                throw new Fault(place, 3);
            }
            parts++;
            return value;
        }
    }

    // ---- months

    static int melt(int blocks, int heat) {
        int less = blocks * heat / 100;
        return blocks - (blocks * heat % 100 == 0 ? less : less + 1);
    }

    static int coming(State s, int town) {
        return s.ships.stream().filter(v -> v.town == town).mapToInt(v -> v.blocks).sum();
    }

    static boolean canSail(State s, int ship, int town, int blocks, boolean dust) {
        if (ship < 0 || ship >= s.ships.size() || town < 0 || town >= s.towns.size()) {
            return false;
        }
        Vessel v = s.ships.get(ship);
        return v.months == 0 && blocks >= 1 && blocks <= v.hold && blocks <= s.pond
                && v.cost + s.wage * blocks + (dust ? blocks : 0) <= s.money;
    }

    static void doSail(State s, int ship, int town, int blocks, boolean dust) {
        Vessel v = s.ships.get(ship);
        s.money -= v.cost + s.wage * blocks + (dust ? blocks : 0);
        s.pond -= blocks;
        v.town = town;
        v.months = s.towns.get(town).months;
        v.blocks = blocks;
        v.dust = dust;
    }

    static long wish(State s, List<Clause> rule, int ship, int town) {
        Map<String, Long> env = new HashMap<>();
        Place p = s.towns.get(town);
        env.put("ship", (long) ship);
        env.put("town", (long) town);
        env.put("months", (long) p.months);
        env.put("heat", (long) p.heat);
        env.put("want", (long) p.want);
        env.put("price", (long) p.price);
        env.put("stock", (long) p.stock);
        env.put("coming", (long) coming(s, town));
        env.put("pond", (long) s.pond);
        env.put("hold", (long) s.ships.get(ship).hold);
        env.put("money", (long) s.money);
        env.put("month", (long) s.month);
        env.put("house", p.house ? 1L : 0L);
        for (Clause c : rule) {
            if (c.test().test(env)) {
                return c.sum().applyAsLong(env);
            }
        }
        return 0;
    }

    static int doMonth(State s, List<Clause> rule, int hundredths) {
        if (rule != null) {
            for (int i = 0; i < s.ships.size(); i++) {
                if (s.ships.get(i).months > 0) {
                    continue;
                }
                int where = -1;
                long most = 0;
                for (int t = s.towns.size() - 1; t >= 0; t--) {
                    long wish = wish(s, rule, i, t);
                    if (wish > 0 && wish >= most) {
                        most = wish;
                        where = t;
                    }
                }
                int blocks = (int) Math.min(most, 1000);
                while (blocks > 0 && !canSail(s, i, where, blocks, false)) {
                    blocks--;
                }
                if (blocks > 0) {
                    doSail(s, i, where, blocks, false);
                }
            }
        }
        int grows = s.frost[s.month % 12] * hundredths / 100;
        s.pond = grows == 0 ? melt(s.pond, 10) : Math.min(999, s.pond + grows);
        for (Vessel v : s.ships) {
            if (v.months > 0 && v.town >= 0) {
                Place p = s.towns.get(v.town);
                v.blocks = melt(v.blocks, v.dust ? p.heat / 4 : p.heat);
                v.months--;
                if (v.months == 0) {
                    p.stock += v.blocks;
                    v.blocks = 0;
                    v.dust = false;
                    v.town = -1;
                    v.months = p.months;
                }
            } else if (v.months > 0) {
                v.months--;
            }
        }
        int all = 0;
        for (Place p : s.towns) {
            int had = p.stock;
            int sells = Math.min(had, p.want);
            s.money = Math.min(99999, s.money + sells * p.price);
            p.stock = melt(had - sells, p.house ? p.heat / 4 : p.heat);
            p.sold += sells;
            all += sells;
            if (had == 0) {
                p.want = Math.max(0, p.want - 1);
            } else if (p.want > 0 && had >= p.want) {
                p.want = Math.min(99, p.want + 1);
            }
        }
        s.month++;
        return all;
    }

    static void doTeach(State s, int town, int blocks) {
        Place p = s.towns.get(town);
        p.stock -= blocks;
        p.want = Math.min(99, p.want + blocks);
    }

    static void doBuild(State s, int town) {
        s.towns.get(town).house = true;
        s.money -= 100;
    }

    static void doAsk(State s, int town, int price) {
        Place p = s.towns.get(town);
        p.want = Math.min(99, p.want * p.price / price);
        p.price = price;
    }

    List<Clause> inForce() {
        return force < 0 ? null : rules.get(force);
    }

    State later(State from, int n) {
        State s = from.copy();
        for (int i = 0; i < n; i++) {
            doMonth(s, inForce(), 100);
        }
        return s;
    }

    boolean hasTown(int town) {
        return now != null && town >= 0 && town < now.towns.size();
    }

    boolean hasShip(int ship) {
        return now != null && ship >= 0 && ship < now.ships.size();
    }

    void keep() {
        past.addLast(now.copy());
        if (past.size() > 20) {
            past.removeFirst();
        }
    }

    // ---- the face

    int feed(int a, int b, int c, int d, int e) {
        if (tape.length > 380) {
            return -1;
        }
        java.nio.ByteBuffer more = java.nio.ByteBuffer.allocate(tape.length + 20);
        more.put(tape).putInt(a).putInt(b).putInt(c).putInt(d).putInt(e);
        tape = more.array();
        return tape.length;
    }

    int end(int n) {
        if (n < 0 || n > tape.length) {
            return -1;
        }
        tape = Arrays.copyOf(tape, n);
        return n;
    }

    int trade() {
        State told;
        try {
            told = new Parser(tape).trade();
        } catch (Fault f) {
            return -2 - f.number;
        }
        tape = new byte[0];
        begin = told;
        now = told.copy();
        notes = new ArrayList<>();
        past.clear();
        return now.towns.size();
    }

    int rule() {
        if (rules.size() == 6) {
            return -1;
        }
        byte[] text = tape;
        tape = new byte[0];
        try {
            rules.add(new Parser(text).rule());
        } catch (Fault f) {
            return -2 - f.number;
        }
        return rules.size() - 1;
    }

    int force(int rule) {
        if (rule < -1 || rule >= rules.size()) {
            return -2;
        }
        int was = force;
        force = rule;
        return was;
    }

    int ship(int ship, int what) {
        if (!hasShip(ship) || what < 0 || what > 5) {
            return -2;
        }
        Vessel v = now.ships.get(ship);
        return new int[] {v.hold, v.cost, v.town, v.months, v.blocks, v.dust ? 1 : 0}[what];
    }

    int town(int town, int what) {
        if (!hasTown(town) || what < 0 || what > 7) {
            return -1;
        }
        Place p = now.towns.get(town);
        return new int[] {p.months, p.heat, p.want, p.price, p.stock, p.house ? 1 : 0, coming(now, town), p.sold}[what];
    }

    int month() {
        if (now == null || now.month == 999) {
            return -1;
        }
        keep();
        return doMonth(now, inForce(), 100);
    }

    int sail(int ship, int town, int blocks, boolean dust) {
        if (now == null || !canSail(now, ship, town, blocks, dust)) {
            return -1;
        }
        keep();
        doSail(now, ship, town, blocks, dust);
        return now.money;
    }

    int teach(int town, int blocks) {
        if (!hasTown(town) || blocks < 1 || blocks > now.towns.get(town).stock) {
            return -1;
        }
        keep();
        doTeach(now, town, blocks);
        return now.towns.get(town).want;
    }

    int build(int town) {
        if (!hasTown(town) || now.towns.get(town).house || now.money < 100) {
            return -1;
        }
        keep();
        doBuild(now, town);
        return now.money;
    }

    int ask(int town, int price) {
        if (!hasTown(town) || price < 1 || price > 99 || price == now.towns.get(town).price) {
            return -1;
        }
        keep();
        doAsk(now, town, price);
        return now.towns.get(town).want;
    }

    int undo() {
        if (past.isEmpty()) {
            return -1;
        }
        now = past.removeLast();
        return past.size();
    }

    int ahead(int town, int n, int what) {
        if (now == null || n < 0 || n > 60 || what < 0 || what > 3 || what > 1 && !hasTown(town)) {
            return -1;
        }
        State then = later(now, n);
        return what == 0 ? then.money : what == 1 ? then.pond
                : what == 2 ? then.towns.get(town).stock : then.towns.get(town).want;
    }

    int arrive(int town, int blocks, boolean dust) {
        Place p = now.towns.get(town);
        for (int i = 0; i < p.months; i++) {
            blocks = melt(blocks, dust ? p.heat / 4 : p.heat);
        }
        return blocks;
    }

    int comes(int town, int blocks, boolean dust) {
        return !hasTown(town) || blocks < 0 || blocks > 999 ? -1 : arrive(town, blocks, dust);
    }

    int load(int town, int blocks, boolean dust) {
        if (!hasTown(town) || blocks < 1 || blocks > 99) {
            return -1;
        }
        for (int i = 0; i <= 999; i++) {
            if (arrive(town, i, dust) == blocks) {
                return i;
            }
        }
        return -2;
    }

    static Plan better(Plan old, Plan other) {
        return old == null || other.money > old.money ? other : old;
    }

    int send(int ship, int n, int what) {
        if (!hasShip(ship) || now.ships.get(ship).months > 0 || n < 1 || n > 24 || what < 0 || what > 3) {
            return -2;
        }
        Plan best = new Plan(later(now, n).money, -1, 0, 0);
        for (int t = 0; t < now.towns.size(); t++) {
            for (int b = 1; b <= 99; b++) {
                for (int d = 0; d <= 1; d++) {
                    if (canSail(now, ship, t, b, d == 1)) {
                        State s = now.copy();
                        doSail(s, ship, t, b, d == 1);
                        best = better(best, new Plan(later(s, n).money, t, b, d));
                    }
                }
            }
        }
        return what == 0 ? best.money : what == 1 ? best.a : what == 2 ? best.b : best.c;
    }

    /** All rows from one ship on, staying first. */
    Plan bestRow(State s, int ship, int[] row, int n) {
        if (ship == 3) {
            return new Plan(later(s, n).money, row[0], row[1], row[2]);
        }
        int[] stay = row.clone();
        stay[ship] = -1;
        Plan best = bestRow(s, ship + 1, stay, n);
        if (ship < s.ships.size() && s.ships.get(ship).months == 0) {
            for (int t = 0; t < s.towns.size(); t++) {
                int blocks = 99;
                while (blocks > 0 && !canSail(s, ship, t, blocks, false)) {
                    blocks--;
                }
                if (blocks > 0) {
                    State gone = s.copy();
                    doSail(gone, ship, t, blocks, false);
                    int[] go = row.clone();
                    go[ship] = t;
                    best = better(best, bestRow(gone, ship + 1, go, n));
                }
            }
        }
        return best;
    }

    int fleet(int n, int what) {
        if (now == null || n < 1 || n > 24 || what < 0 || what > 3) {
            return -3;
        }
        if (what > 0 && (what > now.ships.size() || now.ships.get(what - 1).months > 0)) {
            return -2;
        }
        Plan best = bestRow(now, 0, new int[3], n);
        return what == 0 ? best.money : what == 1 ? best.a : what == 2 ? best.b : best.c;
    }

    int give(int town, int n, int what) {
        if (!hasTown(town) || n < 1 || n > 24 || what < 0 || what > 1) {
            return -1;
        }
        Plan best = null;
        for (int b = 0; b <= now.towns.get(town).stock; b++) {
            State s = now.copy();
            doTeach(s, town, b);
            best = better(best, new Plan(later(s, n).money, b, 0, 0));
        }
        return what == 0 ? best.money : best.a;
    }

    int site(int n, int what) {
        if (now == null || n < 1 || n > 24 || what < 0 || what > 1) {
            return -2;
        }
        Plan best = new Plan(later(now, n).money, -1, 0, 0);
        for (int t = 0; t < now.towns.size(); t++) {
            if (!now.towns.get(t).house && now.money >= 100) {
                State s = now.copy();
                doBuild(s, t);
                best = better(best, new Plan(later(s, n).money, t, 0, 0));
            }
        }
        return what == 0 ? best.money : best.a;
    }

    int pricing(int town, int n, int what) {
        if (!hasTown(town) || n < 1 || n > 24 || what < 0 || what > 1) {
            return -1;
        }
        Plan best = null;
        for (int p = 1; p <= 99; p++) {
            State s = now.copy();
            if (p != now.towns.get(town).price) {
                doAsk(s, town, p);
            }
            best = better(best, new Plan(later(s, n).money, p, 0, 0));
        }
        return what == 0 ? best.money : best.a;
    }

    int war(int town, int what) {
        if (!hasTown(town) || what < 0 || what > 2) {
            return -1;
        }
        Place p = now.towns.get(town);
        int[][] gain = new int[11][11];
        for (int i = 1; i <= 10; i++) {
            for (int j = 1; j <= 10; j++) {
                int mine = Math.max(1, p.price * i / 10);
                int other = Math.max(1, p.price * j / 10);
                gain[i][j] = mine < other ? p.want * mine : mine == other ? p.want / 2 * mine : 0;
            }
        }
        List<int[]> twos = new ArrayList<>();
        for (int i = 1; i <= 10; i++) {
            for (int j = 1; j <= 10; j++) {
                boolean calm = true;
                for (int k = 1; k <= 10; k++) {
                    calm &= gain[k][j] <= gain[i][j] && gain[k][i] <= gain[j][i];
                }
                if (calm) {
                    twos.add(new int[] {i, j});
                }
            }
        }
        return what == 0 ? twos.size() : twos.isEmpty() ? -2 : twos.get(0)[what - 1];
    }

    int out() {
        if (now == null) {
            return -1;
        }
        State s = now.copy();
        for (int i = 0; i < 60; i++) {
            State t = s;
            boolean atSea = t.ships.stream().anyMatch(v -> v.months > 0);
            boolean ice = t.towns.stream().anyMatch(p -> p.stock > 0);
            boolean sails = false;
            for (int ship = 0; ship < t.ships.size(); ship++) {
                for (int town = 0; town < t.towns.size(); town++) {
                    sails |= canSail(t, ship, town, 1, false);
                }
            }
            if (!atSea && !ice && !sails) {
                return t.month;
            }
            s = later(s, 1);
        }
        return -2;
    }

    int hatch(int town, int blocks, boolean dust, int what) {
        if (!hasTown(town) || blocks < 0 || blocks > 99 || what < 0 || what > 2) {
            return -1;
        }
        List<Integer> all = new ArrayList<>();
        for (int i = 0; i <= 999; i++) {
            if (arrive(town, i, dust) == blocks) {
                all.add(i);
            }
        }
        return what == 0 ? all.size() : all.isEmpty() ? -2 : what == 1 ? all.get(0) : all.get(all.size() - 1);
    }

    int note(int n, int money) {
        if (now == null) {
            return -2;
        }
        if (n == -1) {
            notes = new ArrayList<>();
            return 0;
        }
        if (n < 0 || n > 60 || money < 0 || money > 99999 || notes.size() == 10) {
            return -2;
        }
        notes.add(new Note(n, money));
        return notes.size();
    }

    /** For each RULE that the NOTES allow, none first: its number, then the MONEY of all MONTHS. */
    List<int[]> allowed() {
        List<int[]> all = new ArrayList<>();
        for (int r = -1; r < rules.size(); r++) {
            int[] row = new int[62];
            row[0] = r;
            State s = begin.copy();
            for (int i = 0; i <= 60; i++) {
                row[i + 1] = s.money;
                doMonth(s, r < 0 ? null : rules.get(r), 100);
            }
            if (notes.stream().allMatch(n -> row[n.month() + 1] == n.money())) {
                all.add(row);
            }
        }
        return all;
    }

    int ruled(int what) {
        if (now == null || what < 0 || what > 1) {
            return -3;
        }
        List<int[]> all = allowed();
        return what == 0 ? all.size() : all.isEmpty() ? -2 : all.get(0)[0];
    }

    int look(int what) {
        if (now == null || what < 0 || what > 1) {
            return -1;
        }
        List<int[]> all = allowed();
        if (all.isEmpty()) {
            return -2;
        }
        int bestMonth = -1;
        int fewest = 99;
        for (int m = 0; m <= 60; m++) {
            Map<Integer, Integer> groups = new HashMap<>();
            for (int[] row : all) {
                groups.merge(row[m + 1], 1, Integer::sum);
            }
            int most = groups.values().stream().max(Integer::compare).get();
            if (most < fewest) {
                fewest = most;
                bestMonth = m;
            }
        }
        return what == 0 ? bestMonth : fewest;
    }

    int seed(int number) {
        if (number < 0) {
            return -1;
        }
        int was = (int) x;
        x = number;
        return was;
    }

    int years(int m, int n, int what) {
        if (now == null || m < 1 || m > 10 || n < 1 || n > 60 || what < 0 || what > 1) {
            return -1;
        }
        int money = 0;
        int sold = 0;
        long drawn = x;
        for (int i = 0; i < m; i++) {
            State s = now.copy();
            for (int j = 0; j < n; j++) {
                drawn = (drawn * 1103515245L + 12345) & 0x7fffffffL;
                sold += doMonth(s, inForce(), (int) ((drawn >> 16) % 101));
            }
            money += s.money;
        }
        return what == 0 ? money : sold;
    }

    int count(int what) {
        if (what < 0 || what > 15) {
            return -1;
        }
        State s = now == null ? new State() : now;
        int home = 0;
        int houses = 0;
        for (int i = 0; i < s.ships.size(); i++) {
            home += s.ships.get(i).months == 0 ? 1 << i : 0;
        }
        for (int i = 0; i < s.towns.size(); i++) {
            houses += s.towns.get(i).house ? 1 << i : 0;
        }
        return new int[] {s.money, s.wage, s.pond, s.ships.size(), s.towns.size(), rules.size(), force, s.month, home,
            s.ships.stream().mapToInt(v -> v.blocks).sum(), s.towns.stream().mapToInt(p -> p.sold).sum(), houses,
            notes.size(), past.size(), (int) x, tape.length}[what];
    }

    int image(int k) {
        if (k < 0 || k > 3) {
            return -1;
        }
        images.put(k, new Image(now == null ? null : now.copy(), begin, force, x, new ArrayList<>(notes)));
        return now == null ? 0 : now.month;
    }

    int back(int k) {
        if (!images.containsKey(k)) {
            return -1;
        }
        Image i = images.get(k);
        now = i.now() == null ? null : i.now().copy();
        begin = i.begin();
        force = i.force();
        x = i.x();
        notes = new ArrayList<>(i.notes());
        past.clear();
        return now == null ? 0 : now.month;
    }
}
