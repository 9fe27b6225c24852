import java.util.ArrayDeque;
import java.util.ArrayList;
import java.util.Arrays;
import java.util.Deque;
import java.util.List;
import java.util.NoSuchElementException;
import java.util.TreeSet;

/** A second writing of the document, as plain as can be and with no thought of speed: what HourLets is held against. */
public final class Model {
    public static final int NONE = -1;

    static final class Wrong extends RuntimeException {
        private static final long serialVersionUID = 1L;
        final int at;

        Wrong(int at) {
            this.at = at;
        }
    }

    interface Cond {
        boolean holds(State s, int tenant, int room);
    }

    interface Sum {
        int of(State s, int tenant, int room);
    }

    record Rule(String kind, int n, Cond cond) { }

    record Person(int from, int to, int mother) { }

    record Want(int tenant, int rooms, int from, int to) { }

    record Entry(int week, int room, int who, int how) { }

    record Token(int at, String text, char kind) { }

    static final class State {
        List<Person> people = new ArrayList<>();
        List<Want> wants = new ArrayList<>();
        List<Entry> log = new ArrayList<>();
        List<Rule> law = null;
        int[] coins = new int[10];
        int[] owner = new int[168];
        int[] sub = new int[168];
        int[] goods = new int[168];
        boolean[] shut = new boolean[168];
        int till;
        int week;
        int now;
        int seed = 1;
        int chance;
        int texts;
        int told;

        State() {
            Arrays.fill(owner, NONE);
            Arrays.fill(sub, NONE);
        }

        State copy() {
            State s = new State();
            s.people = new ArrayList<>(people);
            s.wants = new ArrayList<>(wants);
            s.log = new ArrayList<>(log);
            s.law = law;
            s.coins = coins.clone();
            s.owner = owner.clone();
            s.sub = sub.clone();
            s.goods = goods.clone();
            s.shut = shut.clone();
            s.till = till;
            s.week = week;
            s.now = now;
            s.seed = seed;
            s.chance = chance;
            s.texts = texts;
            s.told = told;
            return s;
        }

        int lives(int room) {
            int r = Math.floorMod(room, 168);
            return sub[r] >= 0 ? sub[r] : owner[r];
        }

        boolean child(int t) {
            return people.get(t).mother() >= 0;
        }

        int home(int t) {
            return child(t) ? people.get(t).mother() : t;
        }

        List<Integer> owns(int t) {
            List<Integer> rooms = new ArrayList<>();
            for (int r = 0; r < 168; r++) {
                if (owner[r] == t) {
                    rooms.add(r);
                }
            }
            return rooms;
        }

        List<Integer> livesIn(int t) {
            List<Integer> rooms = new ArrayList<>();
            for (int r = 0; r < 168; r++) {
                if (lives(r) == t) {
                    rooms.add(r);
                }
            }
            return rooms;
        }

        boolean likes(int t, int r) {
            return people.get(t).from() <= r % 24 && r % 24 <= people.get(t).to();
        }

        boolean barred(int t, int r) {
            return law != null && law.stream().anyMatch(l -> l.kind().equals("bar") && l.cond().holds(this, t, r));
        }

        int total(String kind, int t, int r) {
            return law.stream().filter(l -> l.kind().equals(kind) && l.cond().holds(this, t, r))
                    .mapToInt(Rule::n).sum();
        }

        int rent(int t, int r) {
            return law == null ? 5 : total("rent", t, r);
        }

        int value(int t, int r) {
            return law == null ? likes(t, r) ? 1 : 0 : total("value", t, r);
        }

        boolean open(int t, int r) {
            return !child(t) && owner[r] < 0 && !shut[r] && !barred(t, r);
        }

        boolean mayTake(int t, int r) {
            return open(t, r) && coins[t] >= rent(t, r);
        }

        int take(int t, int r, int how) {
            int rent = rent(t, r);
            coins[t] -= rent;
            till += rent;
            owner[r] = t;
            enter(r, t, how);
            return rent;
        }

        void enter(int r, int t, int how) {
            log.add(0, new Entry(week, r, t, how));
            if (log.size() > 80) {
                log.remove(80);
            }
        }

        void free(int r) {
            owner[r] = NONE;
            sub[r] = NONE;
        }

        int draw() {
            seed = (int) (1103515245L * seed + 12345L);
            return (seed & 0x7fffffff) / 65536;
        }

        void tick() {
            now++;
            if (now < 168) {
                return;
            }
            now = 0;
            week++;
            for (int t = 0; t < people.size(); t++) {
                for (int r : owns(t)) {
                    int rent = rent(t, r);
                    if (rent <= coins[t]) {
                        coins[t] -= rent;
                        till += rent;
                    } else {
                        free(r);
                    }
                }
            }
            for (int t = 0; t < people.size(); t++) {
                if (child(t)) {
                    continue;
                }
                if (draw() % 100 < chance) {
                    int r = draw() % 168;
                    if (mayTake(t, r)) {
                        take(t, r, 5);
                    }
                }
            }
        }
    }

    private State s = new State();
    private State image;
    private final Deque<State> past = new ArrayDeque<>();
    private List<Integer> tape = new ArrayList<>();
    private int fault = NONE;

    // ---- texts

    private List<Token> tokens;
    private int at;

    private String useText() {
        StringBuilder b = new StringBuilder();
        for (int v : tape) {
            b.append((char) v);
        }
        tape = new ArrayList<>();
        return b.toString();
    }

    private static List<Token> cut(String text) {
        List<Token> out = new ArrayList<>();
        java.util.regex.Matcher m = java.util.regex.Pattern.compile(" +|[a-z]+|[0-9]+|(?s:.)").matcher(text);
        while (m.find()) {
            String g = m.group();
            char c = g.charAt(0);
            if (c != ' ') {
                out.add(new Token(m.start(), g, c >= 'a' && c <= 'z' ? 'w' : c >= '0' && c <= '9' ? 'n' : 's'));
            }
        }
        out.add(new Token(text.length(), "", 'e'));
        return out;
    }

    private Token peek() {
        return tokens.get(at);
    }

    private boolean is(String text) {
        return peek().text().equals(text) && peek().kind() != 'e';
    }

    private Wrong wrong() {
        return new Wrong(peek().at());
    }

    private void pass(String text) {
        if (!is(text)) {
            throw wrong();
        }
        at++;
    }

    private int look(int digits, int low, int high) {
        if (peek().kind() != 'n' || peek().text().length() > digits) {
            throw wrong();
        }
        int v = Integer.parseInt(peek().text());
        if (v < low || v > high) {
            throw wrong();
        }
        return v;
    }

    private int pass(int digits, int low, int high) {
        int v = look(digits, low, high);
        at++;
        return v;
    }

    private int passTenant(State d, int not) {
        int t = look(3, 0, d.people.size() - 1);
        if (d.child(t) || t == not) {
            throw wrong();
        }
        at++;
        return t;
    }

    private void townLine(State d) {
        String word = peek().text();
        if (word.equals("tenant") || word.equals("child")) {
            if (d.people.size() == 10) {
                throw wrong();
            }
        }
        if (word.equals("want") && d.wants.size() == 8) {
            throw wrong();
        }
        at++;
        switch (word) {
            case "tenant" -> {
                int coins = pass(4, 0, 9999);
                pass("likes");
                int from = pass(3, 0, 23);
                pass("to");
                int to = pass(3, from, 23);
                d.coins[d.people.size()] = coins;
                d.told += coins;
                d.people.add(new Person(from, to, NONE));
            }
            case "child" -> {
                pass("of");
                int t = passTenant(d, NONE);
                d.people.add(new Person(NONE, NONE, t));
            }
            case "let" -> {
                int day = pass(3, 0, 6);
                int from = pass(3, 0, 23);
                pass("to");
                int to = look(3, from, 23);
                for (int h = from; h <= to; h++) {
                    if (d.owner[day * 24 + h] >= 0 || d.shut[day * 24 + h]) {
                        throw wrong();
                    }
                }
                at++;
                int t = passTenant(d, NONE);
                Arrays.fill(d.owner, day * 24 + from, day * 24 + to + 1, t);
            }
            case "goods" -> {
                int r = pass(3, 0, 6) * 24;
                r += pass(3, 0, 23);
                d.goods[r] = pass(3, 0, 99);
            }
            case "shut" -> {
                int r = pass(3, 0, 6) * 24;
                r += look(3, 0, 23);
                if (d.owner[r] >= 0) {
                    throw wrong();
                }
                at++;
                d.shut[r] = true;
            }
            case "sub" -> {
                int r = pass(3, 0, 6) * 24;
                r += look(3, 0, 23);
                if (d.owner[r] < 0) {
                    throw wrong();
                }
                at++;
                d.sub[r] = passTenant(d, d.owner[r]);
            }
            case "want" -> {
                int t = passTenant(d, NONE);
                int n = pass(3, 1, 20);
                pass("from");
                int from = pass(3, 0, 23);
                pass("to");
                d.wants.add(new Want(t, n, from, pass(3, from, 23)));
            }
            case "chance" -> d.chance = pass(3, 0, 100);
            default -> {
                at--;
                throw wrong();
            }
        }
    }

    private void lines(int most, Runnable line) {
        if (peek().kind() == 'e') {
            return;
        }
        for (int n = 0;; n++) {
            if (n == most) {
                throw wrong();
            }
            line.run();
            if (peek().kind() == 'e') {
                return;
            }
            pass(";");
        }
    }

    private Cond anyOf(int depth) {
        Cond left = allOf(depth);
        while (is("or")) {
            at++;
            Cond a = left;
            Cond b = allOf(depth);
            left = (x, t, r) -> a.holds(x, t, r) || b.holds(x, t, r);
        }
        return left;
    }

    private Cond allOf(int depth) {
        Cond left = atom(depth);
        while (is("and")) {
            at++;
            Cond a = left;
            Cond b = atom(depth);
            left = (x, t, r) -> a.holds(x, t, r) && b.holds(x, t, r);
        }
        return left;
    }

    private Cond atom(int depth) {
        if ((is("not") || is("(")) && depth == 6) {
            throw wrong();
        }
        if (is("not")) {
            at++;
            Cond a = atom(depth + 1);
            return (x, t, r) -> !a.holds(x, t, r);
        }
        if (is("(")) {
            at++;
            Cond a = anyOf(depth + 1);
            pass(")");
            return a;
        }
        if (is("likes")) {
            at++;
            return State::likes;
        }
        if (is("beside")) {
            at++;
            return (x, t, r) -> x.lives(r - 1) == t || x.lives(r + 1) == t;
        }
        Sum a = sum();
        if (is("<")) {
            at++;
            Sum b = sum();
            return (x, t, r) -> a.of(x, t, r) < b.of(x, t, r);
        }
        pass(">");
        Sum b = sum();
        return (x, t, r) -> a.of(x, t, r) > b.of(x, t, r);
    }

    private Sum sum() {
        Sum left = part();
        while (is("+")) {
            at++;
            Sum a = left;
            Sum b = part();
            left = (x, t, r) -> a.of(x, t, r) + b.of(x, t, r);
        }
        return left;
    }

    private Sum part() {
        if (peek().kind() == 'n') {
            int n = pass(3, 0, 999);
            return (x, t, r) -> n;
        }
        String word = peek().text();
        at++;
        switch (word) {
            case "day":
                return (x, t, r) -> r / 24;
            case "hour":
                return (x, t, r) -> r % 24;
            case "coins":
                return (x, t, r) -> x.coins[t];
            case "rooms":
                return (x, t, r) -> x.owns(t).size();
            case "goods":
                return (x, t, r) -> x.goods[r];
            case "week":
                return (x, t, r) -> x.week;
            default:
                at--;
                throw wrong();
        }
    }

    private void lawLine(List<Rule> law) {
        String kind = peek().text();
        int n = 0;
        if (is("bar")) {
            at++;
        } else if (is("rent") || is("value")) {
            at++;
            n = pass(3, 0, 999);
        } else {
            throw wrong();
        }
        Cond cond = (x, t, r) -> true;
        if (is("if")) {
            at++;
            cond = anyOf(0);
        }
        law.add(new Rule(kind, n, cond));
    }

    public int feed(int a, int b, int c, int d, int e) {
        if (tape.size() > 380) {
            return NONE;
        }
        for (int v : new int[] {a, b, c, d, e}) {
            for (byte x : java.nio.ByteBuffer.allocate(4).putInt(v).array()) {
                tape.add(x & 0xff);
            }
        }
        return tape.size();
    }

    public boolean end(int n) {
        if (n < 0 || tape.size() < n) {
            return false;
        }
        tape = new ArrayList<>(tape.subList(0, n));
        return true;
    }

    public int town() {
        State d = s.copy();
        tokens = cut(useText());
        at = 0;
        try {
            lines(14, () -> townLine(d));
        } catch (Wrong w) {
            fault = w.at;
            throw new IllegalArgumentException();
        }
        fault = NONE;
        if (s.texts == 12) {
            throw new UnsupportedOperationException();
        }
        s = d;
        past.clear();
        return ++s.texts;
    }

    public int law() {
        List<Rule> law = new ArrayList<>();
        tokens = cut(useText());
        at = 0;
        try {
            lines(12, () -> lawLine(law));
        } catch (Wrong w) {
            fault = w.at;
            throw new IllegalArgumentException();
        }
        fault = NONE;
        s.law = law;
        past.clear();
        return law.size();
    }

    public int fault() {
        return fault;
    }

    // ---- what is

    private void tenants(int... all) {
        for (int t : all) {
            if (t < 0 || t >= s.people.size()) {
                throw new IndexOutOfBoundsException();
            }
        }
    }

    private void rooms(int... all) {
        for (int r : all) {
            if (r < 0 || r > 167) {
                throw new IndexOutOfBoundsException();
            }
        }
    }

    private void among(int n, int low, int high) {
        if (n < low || n > high) {
            throw new IllegalArgumentException();
        }
    }

    private void refuseUnless(boolean ok) {
        if (!ok) {
            throw new IllegalStateException();
        }
    }

    private void act() {
        past.push(s.copy());
        if (past.size() > 12) {
            past.removeLast();
        }
    }

    public int tenant(int t, int what) {
        tenants(t);
        Person p = s.people.get(t);
        return switch (what) {
            case 0 -> s.coins[t];
            case 1 -> p.from();
            case 2 -> p.to();
            case 3 -> p.mother();
            case 4 -> s.owns(t).size();
            case 5 -> s.livesIn(s.home(t)).size();
            case 6 -> s.owns(t).stream().mapToInt(r -> s.rent(t, r)).sum();
            case 7 -> s.livesIn(t).stream().mapToInt(r -> s.goods[r]).sum();
            default -> throw new NoSuchElementException();
        };
    }

    public int room(int r, int what) {
        rooms(r);
        return switch (what) {
            case 0 -> s.owner[r];
            case 1 -> s.lives(r);
            case 2 -> s.goods[r];
            case 3 -> s.shut[r] ? 1 : 0;
            case 4 -> s.lives(r - 1);
            case 5 -> s.lives(r + 1);
            default -> throw new NoSuchElementException();
        };
    }

    public int rule(int t, int r, int what) {
        tenants(t);
        rooms(r);
        if (what < 0 || what > 2) {
            throw new NoSuchElementException();
        }
        if (s.child(t)) {
            return 0;
        }
        return what == 0 ? s.barred(t, r) ? 1 : 0 : what == 1 ? s.rent(t, r) : s.value(t, r);
    }

    public int roomOf(int t, int k, boolean lives) {
        tenants(t);
        List<Integer> rooms = lives ? s.livesIn(s.home(t)) : s.owns(t);
        return k >= 0 && k < rooms.size() ? rooms.get(k) : NONE;
    }

    // ---- acts

    public int take(int t, int r) {
        tenants(t);
        rooms(r);
        refuseUnless(s.mayTake(t, r));
        act();
        return s.take(t, r, 0);
    }

    public int leave(int r) {
        rooms(r);
        int was = s.owner[r];
        refuseUnless(was >= 0);
        act();
        s.free(r);
        return was;
    }

    public int sublet(int r, int t, int price) {
        rooms(r);
        tenants(t);
        among(price, 0, 999);
        int o = s.owner[r];
        refuseUnless(o >= 0 && o != t && s.sub[r] < 0 && !s.child(t) && !s.barred(t, r) && s.coins[t] >= price);
        act();
        s.coins[t] -= price;
        s.coins[o] += price;
        if (s.coins[o] > 9999) {
            s.till += s.coins[o] - 9999;
            s.coins[o] = 9999;
        }
        s.sub[r] = t;
        s.enter(r, t, 1);
        return o;
    }

    public int ends(int r) {
        rooms(r);
        int was = s.sub[r];
        refuseUnless(was >= 0);
        act();
        s.sub[r] = NONE;
        return was;
    }

    public int evict(int r) {
        rooms(r);
        refuseUnless(s.lives(r) >= 0);
        act();
        if (s.sub[r] >= 0) {
            s.sub[r] = NONE;
            return NONE;
        }
        int o = s.owner[r];
        s.free(r);
        int three = r / 24 * 24 + 3;
        if (three == r || s.owner[three] >= 0 || s.shut[three]) {
            return NONE;
        }
        s.owner[three] = o;
        s.enter(three, o, 2);
        return three;
    }

    public int carry(int t, int from, int to, int n) {
        tenants(t);
        rooms(from, to);
        among(n, 1, 99);
        if (from == to) {
            throw new IllegalArgumentException();
        }
        refuseUnless(s.lives(from) == t && s.lives(to) == t);
        act();
        int carried = 0;
        while (carried < n && s.goods[from] > 0 && s.goods[to] < 99) {
            s.goods[from]--;
            s.goods[to]++;
            carried++;
        }
        return carried;
    }

    public int swap(int r, int q) {
        rooms(r, q);
        if (r == q) {
            throw new IllegalArgumentException();
        }
        int a = s.owner[r];
        int b = s.owner[q];
        refuseUnless(a >= 0 && b >= 0 && a != b && s.sub[r] < 0 && s.sub[q] < 0
                && !s.barred(b, r) && !s.barred(a, q));
        act();
        s.owner[r] = b;
        s.owner[q] = a;
        s.enter(r, b, 3);
        s.enter(q, a, 3);
        return b;
    }

    public int ticks(int n) {
        among(n, 1, 400);
        act();
        int till = s.till;
        for (int i = 0; i < n; i++) {
            s.tick();
        }
        return s.till - till;
    }

    // ---- streets

    public int neighbours(int a, int b, boolean first) {
        tenants(a, b);
        List<Integer> found = new ArrayList<>();
        for (int r = 0; r < 168; r++) {
            if (s.lives(r) == s.home(a) && s.lives(r + 1) == s.home(b)) {
                found.add(r);
            }
        }
        return !first ? found.size() : found.isEmpty() ? NONE : found.get(0);
    }

    private int row(int who, boolean begin) {
        int most = 0;
        int where = NONE;
        for (int b = 0; b < 168; b++) {
            int n = 0;
            while (n < 168 && s.lives(b + n) == who) {
                n++;
            }
            if (n > most) {
                most = n;
                where = b;
            }
        }
        return begin ? where : most;
    }

    public int run(int t, boolean begin) {
        tenants(t);
        return row(s.home(t), begin);
    }

    public int empty(boolean begin) {
        return row(NONE, begin);
    }

    public int wedding(int a, int b) {
        tenants(a, b);
        if (a == b) {
            throw new IllegalArgumentException();
        }
        for (int i = 0; i < 168; i++) {
            int r = (s.now + i) % 168;
            int here = s.lives(r);
            int next = s.lives(r + 1);
            if (here == s.home(a) && next == s.home(b) || here == s.home(b) && next == s.home(a)) {
                return r;
            }
        }
        return NONE;
    }

    private List<Integer> set(int bits) {
        List<Integer> all = new ArrayList<>();
        for (int t = 0; t < s.people.size(); t++) {
            if ((bits & 1 << t) != 0 && !s.child(t)) {
                all.add(t);
            }
        }
        return all;
    }

    public int court(int bits, boolean begin) {
        List<Integer> in = set(bits);
        int most = 0;
        int where = NONE;
        for (int b = 0; b < 168; b++) {
            List<Integer> met = new ArrayList<>();
            while (in.contains(s.lives(b + met.size())) && !met.contains(s.lives(b + met.size()))) {
                met.add(s.lives(b + met.size()));
            }
            if (met.size() > most) {
                most = met.size();
                where = b;
            }
        }
        return begin ? where : most;
    }

    public int cheap(int t, int n, int k) {
        tenants(t);
        among(n, 1, 20);
        among(k, NONE, n - 1);
        List<Integer> rooms = new ArrayList<>();
        for (int r = 0; r < 168; r++) {
            if (s.open(t, r)) {
                rooms.add(r);
            }
        }
        if (rooms.size() < n) {
            return NONE;
        }
        rooms.sort((a, b) -> Integer.compare(s.rent(t, a), s.rent(t, b)));
        TreeSet<Integer> first = new TreeSet<>(rooms.subList(0, n));
        return k == NONE ? first.stream().mapToInt(r -> s.rent(t, r)).sum() : new ArrayList<>(first).get(k);
    }

    // ---- wants

    private boolean fits(int w, int r) {
        Want want = s.wants.get(w);
        return s.open(want.tenant(), r) && want.from() <= r % 24 && r % 24 <= want.to();
    }

    private boolean augment(int r, boolean[][] fit, int[] cap, List<List<Integer>> has, boolean[] tried) {
        for (int w = 0; w < cap.length; w++) {
            if (!fit[r][w] || tried[w]) {
                continue;
            }
            tried[w] = true;
            if (has.get(w).size() < cap[w]) {
                has.get(w).add(r);
                return true;
            }
            for (int i = 0; i < has.get(w).size(); i++) {
                int other = has.get(w).get(i);
                if (augment(other, fit, cap, has, tried)) {
                    has.get(w).set(i, r);
                    return true;
                }
            }
        }
        return false;
    }

    private int most(int from, boolean[][] fit, int[] cap) {
        List<List<Integer>> has = new ArrayList<>();
        for (int w = 0; w < cap.length; w++) {
            has.add(new ArrayList<>());
        }
        int n = 0;
        for (int r = from; r < 168; r++) {
            if (augment(r, fit, cap, has, new boolean[cap.length])) {
                n++;
            }
        }
        return n;
    }

    private int[] fit() {
        boolean[][] fit = new boolean[168][s.wants.size()];
        int[] cap = s.wants.stream().mapToInt(Want::rooms).toArray();
        for (int r = 0; r < 168; r++) {
            for (int w = 0; w < cap.length; w++) {
                fit[r][w] = fits(w, r);
            }
        }
        int[] given = new int[168];
        int left = most(0, fit, cap);
        for (int r = 0; r < 168; r++) {
            given[r] = NONE;
            for (int w = 0; w < cap.length && given[r] == NONE && left > 0; w++) {
                if (fit[r][w] && cap[w] > 0) {
                    cap[w]--;
                    if (most(r + 1, fit, cap) == left - 1) {
                        given[r] = w;
                        left--;
                    } else {
                        cap[w]++;
                    }
                }
            }
        }
        return given;
    }

    public int fitted(boolean all) {
        int n = (int) Arrays.stream(fit()).filter(w -> w >= 0).count();
        return !all ? n : n == s.wants.stream().mapToInt(Want::rooms).sum() ? 1 : 0;
    }

    public int given(int r) {
        rooms(r);
        return fit()[r];
    }

    // ---- deals

    public int envies(int t) {
        tenants(t);
        int bits = 0;
        for (int o = 0; o < s.people.size(); o++) {
            if (!s.child(t) && !s.child(o) && o != t) {
                int theirs = s.livesIn(o).stream().mapToInt(r -> s.value(t, r)).sum();
                int own = s.livesIn(t).stream().mapToInt(r -> s.value(t, r)).sum();
                if (theirs > own) {
                    bits += 1 << o;
                }
            }
        }
        return bits;
    }

    private void deal(int day, List<Integer> in, List<Integer> so, List<List<Integer>> ways) {
        if (so.size() < 6) {
            for (int t : in) {
                so.add(t);
                deal(day, in, so, ways);
                so.remove(so.size() - 1);
            }
            return;
        }
        for (int t : in) {
            int[] worth = new int[10];
            for (int i = 0; i < 6; i++) {
                worth[so.get(i)] += s.value(t, day * 24 + 12 + i);
            }
            for (int o : in) {
                if (worth[o] > worth[t]) {
                    return;
                }
            }
        }
        ways.add(new ArrayList<>(so));
    }

    public int fair(int day, int bits, int hour) {
        among(day, 0, 6);
        if (hour != NONE) {
            among(hour, 12, 17);
        }
        List<Integer> in = set(bits);
        if (in.size() != 2 && in.size() != 3) {
            return -2;
        }
        List<List<Integer>> ways = new ArrayList<>();
        deal(day, in, new ArrayList<>(), ways);
        return hour == NONE ? ways.size() : ways.isEmpty() ? NONE : ways.get(0).get(hour - 12);
    }

    private int points(int t) {
        int best = NONE;
        if (s.owns(t).isEmpty()) {
            return NONE;
        }
        for (int r = 0; r < 168; r++) {
            if (s.owner[r] >= 0 && s.owner[r] != t && s.sub[r] < 0 && !s.barred(t, r)) {
                if (best == NONE || s.value(t, r) > s.value(t, best)) {
                    best = r;
                }
            }
        }
        for (int r : s.owns(t)) {
            if (best != NONE && s.value(t, best) <= s.value(t, r)) {
                return NONE;
            }
        }
        return best;
    }

    private List<int[]> findRing(int t) {
        List<int[]> ring = new ArrayList<>();
        int a = t;
        do {
            int r = points(a);
            if (r == NONE || ring.size() > 10) {
                return null;
            }
            ring.add(new int[] {a, r});
            a = s.owner[r];
        } while (a != t);
        return ring;
    }

    public int ring(int t, int k) {
        tenants(t);
        if (k < NONE) {
            throw new IllegalArgumentException();
        }
        List<int[]> ring = findRing(t);
        return ring == null ? NONE : k == NONE ? ring.size() : k < ring.size() ? ring.get(k)[1] : NONE;
    }

    public int turn(int t) {
        tenants(t);
        List<int[]> ring = findRing(t);
        refuseUnless(ring != null);
        act();
        for (int[] one : ring) {
            s.owner[one[1]] = one[0];
            s.enter(one[1], one[0], 4);
        }
        return ring.size();
    }

    // ---- news and others

    private int know(int from, int n) {
        int now = s.now;
        boolean[] knows = new boolean[10];
        knows[s.home(from)] = true;
        for (int i = 0; i < n; i++) {
            int a = s.lives(now);
            int b = s.lives(now + 1);
            if (a >= 0 && b >= 0 && knows[a]) {
                knows[b] = true;
            }
            now++;
        }
        int bits = 0;
        for (int t = 0; t < s.people.size(); t++) {
            if (knows[s.home(t)]) {
                bits |= 1 << t;
            }
        }
        return bits;
    }

    public int soonest(int from, int to) {
        tenants(from, to);
        for (int n = 0; n <= 336; n++) {
            if ((know(from, n) & 1 << to) != 0) {
                return n;
            }
        }
        return NONE;
    }

    public int heard(int from, int n) {
        tenants(from);
        among(n, 0, 336);
        return know(from, n);
    }

    public int roomsFor(int t, int n, boolean begin) {
        tenants(t);
        among(n, 1, 24);
        int fewest = NONE;
        int where = NONE;
        for (int b = 0; b < 168 && !s.child(t); b++) {
            int others = 0;
            boolean ok = true;
            for (int i = 0; i < n; i++) {
                int r = (b + i) % 168;
                ok = ok && !s.shut[r] && !s.barred(t, r);
                others += s.owner[r] >= 0 && s.owner[r] != t ? 1 : 0;
            }
            if (ok && (where == NONE || others < fewest)) {
                fewest = others;
                where = b;
            }
        }
        return begin ? where : fewest;
    }

    public int thieves() {
        List<Integer> missed = tape;
        tape = new ArrayList<>();
        if (missed.isEmpty() || missed.stream().anyMatch(r -> r > 167)) {
            throw new IllegalArgumentException();
        }
        int bits = 0;
        for (int t : set(-1)) {
            if (missed.stream().allMatch(r -> s.lives(r) == t || s.lives(r - 1) == t || s.lives(r + 1) == t)) {
                bits |= 1 << t;
            }
        }
        return bits;
    }

    public int seen() {
        List<Integer> told = tape;
        tape = new ArrayList<>();
        if (told.size() % 2 == 1) {
            throw new IllegalArgumentException();
        }
        int first = NONE;
        for (int i = 0; i < told.size(); i += 2) {
            int r = told.get(i);
            int t = told.get(i + 1) - 97;
            if (r > 167 || t < 0 || t >= s.people.size()) {
                throw new IllegalArgumentException();
            }
            if (first == NONE && s.lives(r) != s.home(t)) {
                first = i / 2;
            }
        }
        return first;
    }

    public int changed(int r, int n, int t) {
        rooms(r);
        if (t != NONE) {
            tenants(t);
        }
        among(n, 1, 12);
        int[] out = new int[10];
        for (int i = 0; i < n; i++) {
            if (s.lives(r + i) >= 0) {
                out[s.lives(r + i)]++;
            }
        }
        if (t != NONE) {
            return out[s.home(t)];
        }
        int who = NONE;
        for (int o = 0; o < 10; o++) {
            if (out[o] > 0 && (who == NONE || out[o] > out[who])) {
                who = o;
            }
        }
        return who;
    }

    public int log(int ago, int what) {
        if (what < 0 || what > 3) {
            throw new NoSuchElementException();
        }
        if (ago < 0 || ago >= s.log.size()) {
            return NONE;
        }
        Entry e = s.log.get(ago);
        return what == 0 ? e.week() : what == 1 ? e.room() : what == 2 ? e.who() : e.how();
    }

    public int led(int r, int k) {
        rooms(r);
        if (k < 0) {
            throw new IllegalArgumentException();
        }
        return s.log.stream().filter(e -> e.room() == r).skip(k).map(Entry::who).findFirst().orElse(NONE);
    }

    public int seed(int n) {
        int was = s.seed;
        s.seed = n;
        return was;
    }

    public boolean undo() {
        if (past.isEmpty()) {
            return false;
        }
        s = past.pop();
        return true;
    }

    public void image() {
        image = s.copy();
    }

    public boolean back() {
        if (image == null) {
            return false;
        }
        s = image.copy();
        past.clear();
        return true;
    }

    public int count(int what) {
        return switch (what) {
            case 0 -> s.people.size();
            case 1 -> s.texts;
            case 2 -> s.law == null ? NONE : s.law.size();
            case 3 -> s.week;
            case 4 -> s.now;
            case 5 -> s.till;
            case 6 -> Arrays.stream(s.coins).sum();
            case 7 -> s.told;
            case 8 -> s.owns(NONE).size();
            case 9 -> (int) Arrays.stream(s.sub).filter(t -> t >= 0).count();
            case 10 -> Arrays.stream(s.goods).sum();
            case 11 -> s.wants.size();
            case 12 -> s.chance;
            case 13 -> s.log.size();
            case 14 -> {
                int n = 0;
                for (boolean is : s.shut) {
                    n += is ? 1 : 0;
                }
                yield n;
            }
            case 15 -> past.size();
            default -> NONE;
        };
    }
}
