import java.util.ArrayDeque;
import java.util.ArrayList;
import java.util.Collections;
import java.util.HashMap;
import java.util.List;
import java.util.Map;
import java.util.function.IntUnaryOperator;
import java.util.function.ToLongFunction;
import java.util.regex.Matcher;
import java.util.regex.Pattern;

/** The document once more, told in another way: slow, with objects made freely, to compare answers with. */
final class Model {
    static final int NONE = -1;

    @SuppressWarnings("serial")
    static final class Fault extends RuntimeException {
        final int number;

        Fault(int place, int kind) {
            super(null, null, false, false);
            number = 1 + 8 * place + kind;
        }
    }

    static final class Person {
        int number;
        int cell;
        int thread;
        int heavy;
        int place;
        int tangled;

        Person copy() {
            Person p = new Person();
            p.number = number;
            p.cell = cell;
            p.thread = thread;
            p.heavy = heavy;
            p.place = place;
            p.tangled = tangled;
            return p;
        }

        String key() {
            return cell + "/" + thread + "/" + place;
        }
    }

    static final class Snap {
        int side;
        List<int[]> winds = new ArrayList<>();
        List<Person> people = new ArrayList<>();
        boolean[] gates = new boolean[49];
        int hour;

        Snap copy() {
            Snap s = new Snap();
            s.side = side;
            for (int[] w : winds) s.winds.add(w.clone());
            for (Person p : people) s.people.add(p.copy());
            s.gates = gates.clone();
            s.hour = hour;
            return s;
        }

        int[] windAt(int h) {
            return winds.isEmpty() ? new int[] {0, 0} : winds.get(h % winds.size());
        }

        int in(int place) {
            int n = 0;
            for (Person p : people) if (p.place == place) n++;
            return n;
        }

        int tangles() {
            int n = 0;
            for (Person p : people) n += p.tangled;
            return n;
        }
    }

    /** What a clause may ask of. */
    static final class Eye {
        Snap snap;
        Person who;
        int[] gust;
    }

    static final class Clause {
        ToLongFunction<Eye> sum;
        ToLongFunction<Eye> test;
    }

    // ---- reading

    static final class Lexer {
        private static final Pattern PIECE = Pattern.compile("[0-9]+|[a-z]+|<=|>=|[^ ]", Pattern.DOTALL);
        final List<String> pieces = new ArrayList<>();
        final List<Integer> places = new ArrayList<>();
        int next = 0;

        Lexer(String text) {
            Matcher m = PIECE.matcher(text);
            while (m.find()) {
                pieces.add(m.group());
                places.add(m.start());
            }
            pieces.add("");
            places.add(text.length());
        }

        String peek() {
            return pieces.get(next);
        }

        boolean take(String s) {
            if (peek().equals(s)) {
                next++;
                return true;
            }
            return false;
        }

        Fault fault(int kind) {
            return new Fault(places.get(next), kind);
        }

        boolean atNumber() {
            return peek().matches("[0-9]+");
        }

        int number(int least, int most) {
            if (!atNumber()) throw fault(0);
            if (peek().length() > 5) throw fault(1);
            int n = Integer.parseInt(peek());
            if (n < least || n > most) throw fault(1);
            next++;
            return n;
        }
    }

    static Snap readCountry(String text) {
        Lexer in = new Lexer(text);
        Snap s = new Snap();
        int clauses = 0;
        do {
            String w = in.peek();
            if (!w.equals("country") && !w.equals("wind") && !w.equals("person") && !w.equals("gate")) throw in.fault(0);
            clauses++;
            if (clauses > 40) throw in.fault(4);
            if (clauses == 1 && !w.equals("country")) throw in.fault(4);
            if (clauses > 1 && w.equals("country")) throw in.fault(4);
            if (w.equals("wind") && s.winds.size() == 12) throw in.fault(4);
            if (w.equals("person") && s.people.size() == 6) throw in.fault(4);
            in.next++;
            if (w.equals("country")) {
                s.side = in.number(2, 7);
            } else if (w.equals("wind")) {
                int way = in.number(0, 3);
                s.winds.add(new int[] {way, in.number(0, 3)});
            } else if (w.equals("person")) {
                Person p = new Person();
                p.number = s.people.size();
                p.cell = in.number(0, s.side * s.side - 1);
                p.thread = in.number(0, 60);
                p.heavy = in.number(1, 9);
                s.people.add(p);
            } else {
                s.gates[in.number(0, s.side * s.side - 1)] = true;
            }
        } while (in.take(";"));
        if (!in.peek().isEmpty()) throw in.fault(0);
        return s;
    }

    static final class RuleParser {
        final Lexer in;
        int units = 0;

        RuleParser(String text) {
            in = new Lexer(text);
        }

        List<Clause> clauses() {
            List<Clause> all = new ArrayList<>();
            do {
                if (!in.peek().equals("go")) throw in.fault(0);
                if (all.size() == 12) throw in.fault(4);
                in.next++;
                Clause c = new Clause();
                c.sum = sum();
                if (in.take("if")) c.test = test(0);
                all.add(c);
            } while (in.take(";"));
            if (!in.peek().isEmpty()) throw in.fault(0);
            return all;
        }

        private void unit() {
            units++;
            if (units > 60) throw in.fault(3);
        }

        private ToLongFunction<Eye> test(int deep) {
            ToLongFunction<Eye> left = part(deep);
            while (in.take("or")) {
                ToLongFunction<Eye> one = left;
                ToLongFunction<Eye> other = part(deep);
                left = e -> one.applyAsLong(e) != 0 || other.applyAsLong(e) != 0 ? 1 : 0;
            }
            return left;
        }

        private ToLongFunction<Eye> part(int deep) {
            ToLongFunction<Eye> left = fact(deep);
            while (in.take("and")) {
                ToLongFunction<Eye> one = left;
                ToLongFunction<Eye> other = fact(deep);
                left = e -> one.applyAsLong(e) != 0 && other.applyAsLong(e) != 0 ? 1 : 0;
            }
            return left;
        }

        private ToLongFunction<Eye> fact(int deep) {
            String s = in.peek();
            if (s.equals("not") || s.equals("[")) {
                if (deep == 10) throw in.fault(2);
                in.next++;
                if (s.equals("not")) {
                    ToLongFunction<Eye> inner = fact(deep + 1);
                    return e -> inner.applyAsLong(e) == 0 ? 1 : 0;
                }
                ToLongFunction<Eye> inner = test(deep + 1);
                if (!in.take("]")) throw in.fault(0);
                return inner;
            }
            ToLongFunction<Eye> one = sum();
            String sign = in.peek();
            if (!sign.matches("<|<=|=|>=|>")) throw in.fault(0);
            unit();
            in.next++;
            ToLongFunction<Eye> other = sum();
            return e -> holds(Long.compare(one.applyAsLong(e), other.applyAsLong(e)), sign) ? 1 : 0;
        }

        private static boolean holds(int order, String sign) {
            return order < 0 ? sign.startsWith("<") : order > 0 ? sign.startsWith(">") : sign.endsWith("=");
        }

        private ToLongFunction<Eye> sum() {
            ToLongFunction<Eye> left = term();
            while (in.peek().equals("+") || in.peek().equals("-")) {
                boolean plus = in.peek().equals("+");
                in.next++;
                ToLongFunction<Eye> one = left;
                ToLongFunction<Eye> other = term();
                left = plus ? e -> one.applyAsLong(e) + other.applyAsLong(e) : e -> one.applyAsLong(e) - other.applyAsLong(e);
            }
            return left;
        }

        private ToLongFunction<Eye> term() {
            ToLongFunction<Eye> left = value();
            while (in.peek().matches("[*/%]")) {
                String op = in.peek();
                in.next++;
                ToLongFunction<Eye> one = left;
                ToLongFunction<Eye> other = value();
                left = e -> {
                    long a = one.applyAsLong(e);
                    long b = other.applyAsLong(e);
                    return op.equals("*") ? a * b : b == 0 ? 0 : op.equals("/") ? a / b : a % b;
                };
            }
            return left;
        }

        private ToLongFunction<Eye> value() {
            String s = in.peek();
            if (in.atNumber()) {
                if (s.length() > 5) throw in.fault(1);
                unit();
                in.next++;
                long n = Long.parseLong(s);
                return e -> n;
            }
            if (!s.matches("person|row|column|thread|heavy|way|force|next|air|here|tangled|hour")) throw in.fault(0);
            unit();
            in.next++;
            return e -> word(s, e);
        }
    }

    static long word(String s, Eye e) {
        switch (s) {
            case "person": return e.who.number;
            case "row": return e.who.cell / e.snap.side;
            case "column": return e.who.cell % e.snap.side;
            case "thread": return e.who.thread;
            case "heavy": return e.who.heavy;
            case "way": return e.gust != null ? e.gust[0] : e.snap.windAt(e.snap.hour)[0];
            case "force": return e.gust != null ? e.gust[1] : e.snap.windAt(e.snap.hour)[1];
            case "next": return e.snap.windAt(e.snap.hour + 1)[1];
            case "air": return e.snap.in(1);
            case "here":
                long n = 0;
                for (Person p : e.snap.people) if (p != e.who && p.place == 0 && p.cell == e.who.cell) n++;
                return n;
            case "tangled": return e.who.tangled;
            default: return e.snap.hour;
        }
    }

    // ---- hours

    int letGo(Snap s, List<Clause> rule, int[] gust) {
        int set = 0;
        for (Person p : s.people) {
            if (p.place != 0 || !s.gates[p.cell] || p.thread < p.heavy) continue;
            Eye e = new Eye();
            e.snap = s;
            e.who = p;
            e.gust = gust;
            boolean goes = rule == null;
            if (rule != null) {
                for (Clause c : rule) {
                    if (c.test == null || c.test.applyAsLong(e) != 0) {
                        goes = c.sum.applyAsLong(e) > 0;
                        break;
                    }
                }
            }
            if (goes) set |= 1 << p.number;
        }
        return set;
    }

    /** The set of those in the air at (2). */
    int pass(Snap s, int going, int[] gust) {
        int[] wind = gust != null ? gust : s.windAt(s.hour);
        int flown = 0;
        for (Person p : s.people) {
            if (p.place != 0) continue;
            if ((going >> p.number & 1) == 1) p.place = 1;
            else p.thread = Math.min(60, p.thread + 1);
        }
        Map<Integer, List<Person>> met = new HashMap<>();
        for (Person p : s.people) {
            if (p.place != 1) continue;
            flown |= 1 << p.number;
            p.thread = p.thread < p.heavy ? 0 : p.thread - p.heavy;
            for (int step = 0; step < wind[1] && p.place == 1; step++) {
                int row = p.cell / s.side;
                int column = p.cell % s.side;
                boolean leaves = wind[0] == 0 && row == 0 || wind[0] == 2 && row == s.side - 1
                    || wind[0] == 3 && column == 0 || wind[0] == 1 && column == s.side - 1;
                if (leaves) {
                    p.place = 2;
                    p.cell = NONE;
                    p.thread = 0;
                } else {
                    p.cell += wind[0] == 0 ? -s.side : wind[0] == 1 ? 1 : wind[0] == 2 ? s.side : -1;
                }
            }
            if (p.place == 1) met.computeIfAbsent(p.cell, k -> new ArrayList<>()).add(p);
        }
        for (List<Person> there : met.values()) {
            if (there.size() < 2) continue;
            for (Person p : there) {
                p.place = 0;
                p.tangled++;
            }
        }
        for (Person p : s.people) if (p.place == 1 && p.thread < p.heavy) p.place = 0;
        s.hour++;
        return flown;
    }

    void pass(Snap s, int n) {
        for (int i = 0; i < n; i++) pass(s, letGo(s, inForce(), null), null);
    }

    // ---- the object

    final StringBuilder tape = new StringBuilder();
    final List<List<Clause>> rules = new ArrayList<>();
    Snap now = null;
    Snap told = null;
    int ruleNow = NONE;
    List<int[]> notes = new ArrayList<>();
    long x = 0;
    final ArrayDeque<Snap> undo = new ArrayDeque<>();
    final Object[][] images = new Object[4][];

    List<Clause> inForce() {
        return ruleNow < 0 ? null : rules.get(ruleNow);
    }

    Person at(int person) {
        return now == null || person < 0 || person >= now.people.size() ? null : now.people.get(person);
    }

    boolean cell(int c) {
        return now != null && c >= 0 && c < now.side * now.side;
    }

    boolean onLand(int person) {
        return at(person) != null && at(person).place == 0;
    }

    static boolean in(int n, int least, int most) {
        return n >= least && n <= most;
    }

    void act() {
        undo.push(now.copy());
        if (undo.size() > 20) undo.removeLast();
    }

    int feed(int... five) {
        if (tape.length() + 20 > 400) return NONE;
        for (int n : five) for (int k = 0; k < 4; k++) tape.append((char) (n >>> 24 - 8 * k & 255));
        return tape.length();
    }

    int end(int n) {
        if (!in(n, 0, tape.length())) return NONE;
        tape.setLength(n);
        return n;
    }

    int country() {
        try {
            told = readCountry(tape.toString());
        } catch (Fault f) {
            return -2 - f.number;
        }
        now = told.copy();
        tape.setLength(0);
        notes = new ArrayList<>();
        undo.clear();
        return now.people.size();
    }

    int rule() {
        if (rules.size() == 6) return NONE;
        String text = tape.toString();
        tape.setLength(0);
        try {
            rules.add(new RuleParser(text).clauses());
        } catch (Fault f) {
            return -2 - f.number;
        }
        return rules.size() - 1;
    }

    int force(int k) {
        if (!in(k, NONE, rules.size() - 1)) return -2;
        int was = ruleNow;
        ruleNow = k;
        return was;
    }

    int person(int person, int what) {
        Person p = at(person);
        if (p == null || !in(what, 0, 4)) return -2;
        return new int[] {p.cell, p.thread, p.heavy, p.place, p.tangled}[what];
    }

    int wind(int hour, int what) {
        if (now == null || !in(what, 0, 1) || !in(hour, 0, Math.max(1, now.winds.size()) - 1)) return NONE;
        return now.windAt(hour)[what];
    }

    int gateIn(int c) {
        return !cell(c) ? NONE : now.gates[c] ? 1 : 0;
    }

    int hour() {
        if (now == null || now.hour == 999) return NONE;
        act();
        int set = letGo(now, inForce(), null);
        pass(now, set, null);
        return set;
    }

    int tell(int person, int much) {
        Person p = at(person);
        if (p == null || p.place == 2 || !in(much, 1, 9) || p.thread < much) return NONE;
        act();
        return p.thread -= much;
    }

    int save(int person, int much) {
        Person p = at(person);
        if (p == null || p.place == 2 || !in(much, 1, 9)) return NONE;
        act();
        return p.thread = Math.min(60, p.thread + much);
    }

    int carry(int person, int c) {
        if (!onLand(person) || !cell(c) || at(person).cell == c) return NONE;
        act();
        int was = at(person).cell;
        at(person).cell = c;
        return was;
    }

    int gate(int c) {
        if (!cell(c)) return NONE;
        act();
        now.gates[c] = !now.gates[c];
        return gateIn(c);
    }

    int undo() {
        if (undo.isEmpty()) return NONE;
        now = undo.pop();
        return undo.size();
    }

    int ahead(int person, int n, int what) {
        if (at(person) == null || !in(n, 0, 100) || !in(what, 0, 2)) return -2;
        Snap s = now.copy();
        pass(s, n);
        Person p = s.people.get(person);
        return what == 0 ? p.cell : what == 1 ? p.thread : p.place;
    }

    int goes(int person) {
        if (at(person) == null) return NONE;
        Snap s = now.copy();
        for (int i = 0; i < 200; i++) {
            if ((letGo(s, inForce(), null) >> person & 1) == 1) return now.hour + i;
            pass(s, 1);
        }
        return -2;
    }

    int down(int person, int what) {
        if (at(person) == null || at(person).place != 1 || !in(what, 0, 1)) return -3;
        Snap s = now.copy();
        for (int i = 0; i < 100; i++) {
            pass(s, 1);
            Person p = s.people.get(person);
            if (p.place != 1) return what == 0 ? now.hour + i : p.cell;
        }
        return -2;
    }

    /** Where and when one comes down who stays n hours with what thread; null if they can't. */
    private int[] comes(int person, int n, IntUnaryOperator thread) {
        Snap s = now.copy();
        Person p = s.people.get(person);
        p.thread = thread.applyAsInt(p.thread);
        for (int i = 0; i < n; i++) {
            int set = letGo(s, inForce(), null);
            pass(s, set - (set & 1 << person), null);
        }
        if (p.thread < p.heavy) return null;
        for (int i = 0; i < 100; i++) {
            int set = letGo(s, inForce(), null);
            pass(s, i == 0 ? set | 1 << person : set, null);
            if (p.place != 1) return new int[] {p.cell, now.hour + n + i};
        }
        return null;
    }

    int gone(int person, int n, int what) {
        if (!onLand(person) || !in(n, 0, 60) || !in(what, 0, 1)) return -3;
        int[] r = comes(person, n, t -> t);
        return r == null ? -2 : r[what];
    }

    int timing(int person, int c) {
        if (!onLand(person) || !cell(c)) return NONE;
        for (int n = 0; n <= 60; n++) {
            int[] r = comes(person, n, t -> t);
            if (r != null && r[0] == c) return n;
        }
        return -2;
    }

    int had(int person, int c, int what) {
        if (!onLand(person) || !cell(c) || !in(what, 0, 1)) return NONE;
        List<Integer> all = new ArrayList<>();
        for (int t = 0; t <= 60; t++) {
            int thread = t;
            int[] r = comes(person, 0, old -> thread);
            if (r != null && r[0] == c) all.add(t);
        }
        return what == 0 ? all.size() : all.isEmpty() ? -2 : Collections.min(all);
    }

    int tangle(int what) {
        if (now == null || !in(what, 0, 1)) return NONE;
        Snap s = now.copy();
        for (int i = 0; i < 200; i++) {
            Snap before = s.copy();
            pass(s, 1);
            int least = 99;
            for (Person p : s.people) if (p.tangled > before.people.get(p.number).tangled) least = Math.min(least, p.cell);
            if (least < 99) return what == 0 ? before.hour : least;
        }
        return -2;
    }

    int flock(int n, int what) {
        if (now == null || !in(n, 1, 40) || !in(what, 0, 2)) return NONE;
        List<int[]> all = new ArrayList<>();
        for (int set = 0; set < 1 << now.people.size(); set++) {
            boolean able = true;
            for (Person p : now.people) if ((set >> p.number & 1) == 1 && (p.place != 0 || p.thread < p.heavy)) able = false;
            if (!able) continue;
            Snap s = now.copy();
            pass(s, set, null);
            pass(s, n - 1);
            all.add(new int[] {s.in(2), s.tangles(), -Integer.bitCount(set), set});
        }
        all.sort((a, b) -> java.util.Arrays.compare(a, b));
        int[] best = all.get(0);
        return what == 0 ? best[3] : what == 1 ? best[0] : best[1];
    }

    int bestGate(int n, int what) {
        if (now == null || !in(n, 1, 40) || !in(what, 0, 1)) return -2;
        List<int[]> all = new ArrayList<>();
        for (int c = -1; c < now.side * now.side; c++) {
            Snap s = now.copy();
            if (c >= 0) s.gates[c] ^= true;
            pass(s, n);
            int moved = 0;
            for (Person p : s.people) if (p.place != 2 && p.cell != at(p.number).cell) moved++;
            all.add(new int[] {-moved, c});
        }
        all.sort((a, b) -> java.util.Arrays.compare(a, b));
        return what == 0 ? all.get(0)[1] : -all.get(0)[0];
    }

    int bestWinds(int n, int what) {
        if (now == null || !in(n, 1, 40) || !in(what, 0, 2)) return -2;
        List<int[]> all = new ArrayList<>();
        for (int i = -1; i < now.winds.size(); i++) {
            for (int j = i < 0 ? -1 : i + 1; j < (i < 0 ? 0 : now.winds.size()); j++) {
                Snap s = now.copy();
                if (i >= 0) Collections.swap(s.winds, i, j);
                pass(s, n);
                all.add(new int[] {s.in(2), i, j});
            }
        }
        all.sort((a, b) -> java.util.Arrays.compare(a, b));
        return all.get(0)[what];
    }

    int rests(int one, int other, int n, int what) {
        if (!onLand(one) || !onLand(other) || one == other || !in(n, 1, 20) || !in(what, 0, 2)) return NONE;
        int[][][] gain = new int[4][4][];
        for (int a = 0; a < 4; a++) {
            for (int b = 0; b < 4; b++) {
                Snap s = now.copy();
                int[] g = new int[2];
                for (int h = 0; h < n; h++) {
                    int set = letGo(s, inForce(), null);
                    if (h < a) set &= ~(1 << one);
                    if (h < b) set &= ~(1 << other);
                    int flown = pass(s, set, null);
                    g[0] += flown >> one & 1;
                    g[1] += flown >> other & 1;
                }
                if (s.people.get(one).place == 2) g[0] -= 10;
                if (s.people.get(other).place == 2) g[1] -= 10;
                gain[a][b] = g;
            }
        }
        List<int[]> calm = new ArrayList<>();
        for (int a = 0; a < 4; a++) {
            for (int b = 0; b < 4; b++) {
                int best0 = Math.max(Math.max(gain[0][b][0], gain[1][b][0]), Math.max(gain[2][b][0], gain[3][b][0]));
                int best1 = Math.max(Math.max(gain[a][0][1], gain[a][1][1]), Math.max(gain[a][2][1], gain[a][3][1]));
                if (gain[a][b][0] == best0 && gain[a][b][1] == best1) calm.add(new int[] {a, b});
            }
        }
        return what == 0 ? calm.size() : calm.isEmpty() ? -2 : calm.get(0)[what - 1];
    }

    int ring(int what) {
        if (now == null || !in(what, 0, 1)) return NONE;
        List<String> keys = new ArrayList<>();
        Snap s = now.copy();
        for (int i = 0; i <= 60; i++) {
            StringBuilder key = new StringBuilder();
            key.append(s.hour % Math.max(1, s.winds.size()));
            for (Person p : s.people) key.append(' ').append(p.key());
            keys.add(key.toString());
            pass(s, 1);
        }
        for (int i = 0; i < 60; i++) {
            for (int j = i + 1; j <= 60; j++) {
                if (keys.get(i).equals(keys.get(j))) return what == 0 ? now.hour + i : j - i;
            }
        }
        return -2;
    }

    int pence(int much, int person) {
        if (at(person) == null || !in(much, 0, 9999)) return NONE;
        int total = 0;
        for (Person p : now.people) total += p.thread;
        if (total == 0) return 0;
        int sum = total;
        int[] parts = new int[now.people.size()];
        List<Person> byLoss = new ArrayList<>(now.people);
        int left = much;
        for (Person p : now.people) left -= parts[p.number] = much * p.thread / total;
        byLoss.sort((a, b) -> Integer.compare(much * b.thread % sum, much * a.thread % sum));
        for (int i = 0; i < left; i++) parts[byLoss.get(i).number]++;
        return parts[person];
    }

    int note(int n, int person, int c) {
        if (n == NONE) {
            notes.clear();
            return 0;
        }
        if (!in(n, 0, 60) || at(person) == null || c != NONE && !cell(c) || notes.size() == 10) return -2;
        notes.add(new int[] {n, person, c});
        return notes.size();
    }

    private Snap dayOf(int rule, int n) {
        Snap s = told.copy();
        for (int i = 0; i < n; i++) pass(s, letGo(s, rule < 0 ? null : rules.get(rule), null), null);
        return s;
    }

    private List<Integer> suited() {
        List<Integer> all = new ArrayList<>();
        for (int k = -1; k < rules.size(); k++) {
            boolean fits = true;
            for (int[] note : notes) fits &= dayOf(k, note[0]).people.get(note[1]).cell == note[2];
            if (fits) all.add(k);
        }
        return all;
    }

    int ruled(int what) {
        if (now == null || !in(what, 0, 1)) return -3;
        List<Integer> all = suited();
        return what == 0 ? all.size() : all.isEmpty() ? -2 : all.get(0);
    }

    int look(int n, int what) {
        if (now == null || !in(n, 0, 60) || !in(what, 0, 1)) return NONE;
        List<Integer> all = suited();
        int[] best = null;
        for (Person p : now.people) {
            Map<Integer, Integer> groups = new HashMap<>();
            for (int k : all) groups.merge(dayOf(k, n).people.get(p.number).cell, 1, Integer::sum);
            if (groups.isEmpty()) return -2;
            int most = Collections.max(groups.values());
            if (best == null || most < best[1]) best = new int[] {p.number, most};
        }
        return best == null ? -2 : best[what];
    }

    int seed(int to) {
        if (to < 0) return NONE;
        int was = (int) x;
        x = to;
        return was;
    }

    private int draw() {
        x = (x * 1103515245L + 12345L) % 2147483648L;
        return (int) (x / 65536);
    }

    int gusts(int m, int n, int p, int what) {
        if (now == null || !in(m, 1, 10) || !in(n, 1, 60) || !in(p, 0, 100) || !in(what, 0, 1)) return NONE;
        long kept = x;
        int[] sums = new int[2];
        for (int i = 0; i < m; i++) {
            Snap s = now.copy();
            for (int h = 0; h < n; h++) {
                int[] gust = null;
                if (draw() % 100 < p) {
                    int way = draw() % 4;
                    gust = new int[] {way, draw() % 4};
                }
                pass(s, letGo(s, inForce(), gust), gust);
            }
            sums[0] += s.in(2);
            sums[1] += s.tangles() - now.tangles();
        }
        x = kept;
        return sums[what];
    }

    int count(int what) {
        int bits1 = 0;
        int bits2 = 0;
        int thread = 0;
        int gates = 0;
        if (now != null) {
            for (Person p : now.people) {
                bits1 |= p.place == 1 ? 1 << p.number : 0;
                bits2 |= p.place == 2 ? 1 << p.number : 0;
                thread += p.thread;
            }
            for (boolean g : now.gates) gates += g ? 1 : 0;
        }
        Snap s = now == null ? new Snap() : now;
        int[] all = {s.side, now == null ? 0 : Math.max(1, s.winds.size()), s.people.size(), rules.size(), ruleNow, s.hour, bits1,
            bits2, thread, s.tangles(), gates, notes.size(), undo.size(), (int) x, tape.length()};
        return in(what, 0, 14) ? all[what] : NONE;
    }

    int image(int k) {
        if (!in(k, 0, 3)) return NONE;
        images[k] = new Object[] {now == null ? null : now.copy(), told, ruleNow, new ArrayList<>(notes), x};
        return now == null ? 0 : now.hour;
    }

    @SuppressWarnings("unchecked")
    int back(int k) {
        if (!in(k, 0, 3) || images[k] == null) return NONE;
        Object[] kept = images[k];
        now = kept[0] == null ? null : ((Snap) kept[0]).copy();
        told = (Snap) kept[1];
        ruleNow = (Integer) kept[2];
        notes = new ArrayList<>((List<int[]>) kept[3]);
        x = (Long) kept[4];
        undo.clear();
        return now == null ? 0 : now.hour;
    }
}
