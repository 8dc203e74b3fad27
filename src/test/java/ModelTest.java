import java.util.Random;

/** Drawn runs of calls, answered by the class and by the plain model: each answer must be alike. */
public final class ModelTest {
    private static final String[] WORDS = {"person", "row", "column", "thread", "heavy", "way", "force", "next", "air", "here",
        "tangled", "hour"};
    private static final String[] SIGNS = {"<", "<=", "=", ">=", ">"};
    private static final String BYTES = " ;[]<>=+-*/%09azgoifnot\u0000\u00e9A";

    private final Random random;
    private final GossamerGate gate = new GossamerGate();
    private final Model model = new Model();
    private final StringBuilder log = new StringBuilder();
    private int calls = 0;

    private ModelTest(long seed) {
        random = new Random(seed);
    }

    public static void main(String[] args) {
        int runs = args.length > 0 ? Integer.parseInt(args[0]) : 400;
        for (int run = 0; run < runs; run++) {
            if (!new ModelTest(run).run()) {
                System.out.println("drawn run " + run + " is not as due");
                System.exit(1);
            }
        }
        System.out.println("all drawn runs are as due");
    }

    private boolean run() {
        int steps = 20 + random.nextInt(80);
        for (int i = 0; i < steps && calls < 480; i++) {
            boolean fine = i == 0 && random.nextInt(12) > 0 ? tellText(true) : step();
            if (!fine) {
                System.out.print(log);
                return false;
            }
        }
        return true;
    }

    private boolean due(String call, int got, int want) {
        calls++;
        log.append(call).append(" -> ").append(got).append(", due ").append(want).append('\n');
        return got == want;
    }

    private boolean tellText(boolean isCountry) {
        String text = isCountry ? countryText() : ruleText();
        if (random.nextInt(6) == 0) text = spoilt(text);
        if (text.length() > 400) text = text.substring(0, 400);
        int padded = (text.length() + 19) / 20 * 20;
        if (!due("end 0", gate.end(0), model.end(0))) return false;
        int[] five = new int[5];
        for (int i = 0; i < padded; i += 20) {
            for (int k = 0; k < 5; k++) {
                five[k] = 0;
                for (int b = 0; b < 4; b++) {
                    int place = i + 4 * k + b;
                    five[k] = five[k] << 8 | (place < text.length() ? text.charAt(place) : 0);
                }
            }
            if (!due("feed", gate.feed(five[0], five[1], five[2], five[3], five[4]), model.feed(five))) return false;
        }
        if (!due("end " + text.length(), gate.end(text.length()), model.end(text.length()))) return false;
        log.append(text).append('\n');
        boolean fine = isCountry ? due("country", gate.country(), model.country()) : due("rule", gate.rule(), model.rule());
        return fine && due("count 14", gate.count(14), model.count(14));
    }

    /** Much room, weak winds, long threads and many gates: more is in the air, and longer. */
    private String livelyText() {
        int side = 4 + random.nextInt(4);
        StringBuilder s = new StringBuilder("country ").append(side);
        for (int i = random.nextInt(6); i > 0; i--) {
            s.append(";wind ").append(random.nextInt(4)).append(' ').append(random.nextInt(2));
        }
        for (int i = 2 + random.nextInt(5); i > 0; i--) {
            s.append(";person ").append(random.nextInt(side * side)).append(' ').append(3 + random.nextInt(20));
            s.append(' ').append(1 + random.nextInt(4));
        }
        for (int i = 8 + random.nextInt(16); i > 0; i--) {
            s.append(";gate ").append(random.nextInt(side * side));
        }
        return s.toString();
    }

    private String countryText() {
        if (random.nextInt(2) == 0) return livelyText();
        int side = 2 + random.nextInt(6);
        int cells = side * side;
        StringBuilder s = new StringBuilder("country ").append(side);
        int winds = random.nextInt(5) == 0 ? random.nextInt(14) : random.nextInt(5);
        int people = random.nextInt(5) == 0 ? random.nextInt(8) : 2 + random.nextInt(4);
        int gates = random.nextInt(5) == 0 ? random.nextInt(30) : 1 + random.nextInt(8);
        while (winds + people + gates > 0) {
            int r = random.nextInt(winds + people + gates);
            s.append(random.nextInt(3) == 0 ? " ; " : ";");
            if (r < winds) {
                winds--;
                s.append("wind ").append(random.nextInt(4)).append(' ').append(random.nextInt(random.nextInt(3) == 0 ? 4 : 2));
            } else if (r < winds + people) {
                people--;
                s.append("person ").append(random.nextInt(cells)).append(' ');
                s.append(random.nextInt(4) == 0 ? random.nextInt(61) : random.nextInt(12)).append(' ');
                s.append(1 + random.nextInt(random.nextInt(3) == 0 ? 9 : 3));
            } else {
                gates--;
                s.append("gate").append(random.nextInt(3) == 0 ? "" : " ").append(random.nextInt(cells));
            }
        }
        return s.toString();
    }

    private String ruleText() {
        StringBuilder s = new StringBuilder();
        int clauses = random.nextInt(20) == 0 ? 10 + random.nextInt(5) : 1 + random.nextInt(3);
        boolean big = random.nextInt(15) == 0;
        for (int i = 0; i < clauses; i++) {
            if (i > 0) s.append(';');
            s.append("go ");
            addSum(s, big ? 12 : 4);
            if (random.nextInt(4) > 0) {
                s.append(" if ");
                addTest(s, big ? 10 : 2);
            }
        }
        return s.toString();
    }

    private void addTest(StringBuilder s, int size) {
        addFact(s, size);
        int more = random.nextInt(size);
        for (int i = 0; i < more; i++) {
            s.append(random.nextBoolean() ? " and " : " or ");
            addFact(s, size - 1);
        }
    }

    private void addFact(StringBuilder s, int size) {
        int kind = random.nextInt(8);
        if (kind == 0) {
            int nots = random.nextInt(20) == 0 ? 9 + random.nextInt(3) : 1;
            for (int i = 0; i < nots; i++) s.append("not ");
            addFact(s, Math.max(1, size - 1));
        } else if (kind == 1) {
            int opens = random.nextInt(20) == 0 ? 9 + random.nextInt(3) : 1;
            for (int i = 0; i < opens; i++) s.append('[');
            addTest(s, Math.max(1, size - 1));
            for (int i = 0; i < opens; i++) s.append(']');
        } else {
            addSum(s, 2);
            s.append(random.nextBoolean() ? " " : "").append(SIGNS[random.nextInt(5)]).append(random.nextBoolean() ? " " : "");
            addSum(s, 2);
        }
    }

    private void addSum(StringBuilder s, int size) {
        int more = random.nextInt(size);
        addValue(s);
        for (int i = 0; i < more; i++) {
            s.append(random.nextBoolean() ? " " : "").append("+-*/%".charAt(random.nextInt(5)));
            addValue(s);
        }
    }

    private void addValue(StringBuilder s) {
        int kind = random.nextInt(10);
        if (kind == 0) s.append(random.nextInt(100000));
        else if (kind < 5) s.append(random.nextInt(7));
        else s.append(WORDS[random.nextInt(WORDS.length)]);
    }

    private String spoilt(String text) {
        StringBuilder s = new StringBuilder(text);
        int place = random.nextInt(s.length() + 1);
        switch (random.nextInt(4)) {
            case 0:
                s.setLength(place);
                break;
            case 1:
                s.insert(place, BYTES.charAt(random.nextInt(BYTES.length())));
                break;
            case 2:
                if (place < s.length()) s.setCharAt(place, BYTES.charAt(random.nextInt(BYTES.length())));
                break;
            default:
                if (place < s.length()) s.deleteCharAt(place);
                break;
        }
        return s.toString();
    }

    /** Mostly within bounds, now and then at or past their edges, or anything. */
    private int pick(int least, int most) {
        int kind = random.nextInt(40);
        if (kind == 0) return random.nextInt();
        if (kind == 1) return least - 1;
        if (kind == 2) return most + 1;
        if (kind == 3) return most;
        return least + random.nextInt(Math.max(1, most - least + 1));
    }

    private int anyone() {
        return pick(0, Math.max(0, model.count(2) - 1));
    }

    private int anywhere() {
        return pick(0, Math.max(0, model.count(0) * model.count(0) - 1));
    }

    private boolean step() {
        int kind = random.nextInt(44);
        int a;
        int b;
        int c;
        int d;
        switch (kind) {
            case 0:
                return random.nextInt(3) > 0 || tellText(true);
            case 1:
            case 2:
                return tellText(false);
            case 3:
            case 4:
                a = pick(NONE, model.count(3) - 1);
                return due("force " + a, gate.force(a), model.force(a));
            case 5:
            case 6:
            case 7:
            case 8:
            case 9:
                return due("hour", gate.hour(), model.hour()) && all();
            case 10:
                a = anyone();
                b = pick(1, 9);
                return due("tell " + a + " " + b, gate.tell(a, b), model.tell(a, b)) && all();
            case 11:
                a = anyone();
                b = pick(1, 9);
                return due("save " + a + " " + b, gate.save(a, b), model.save(a, b)) && all();
            case 12:
                a = anyone();
                b = anywhere();
                return due("carry " + a + " " + b, gate.carry(a, b), model.carry(a, b)) && all();
            case 13:
                a = anywhere();
                return due("gate " + a, gate.gate(a), model.gate(a)) && all();
            case 14:
                return due("undo", gate.undo(), model.undo()) && all();
            case 15:
                a = pick(0, 11);
                b = pick(0, 1);
                return due("wind " + a + " " + b, gate.wind(a, b), model.wind(a, b));
            case 16:
                a = anyone();
                b = pick(0, 4);
                return due("person " + a + " " + b, gate.person(a, b), model.person(a, b));
            case 17:
                a = pick(0, 14);
                return due("count " + a, gate.count(a), model.count(a));
            case 18:
            case 19:
                a = anyone();
                b = pick(0, 100);
                c = pick(0, 2);
                return due("ahead " + a + " " + b + " " + c, gate.ahead(a, b, c), model.ahead(a, b, c));
            case 20:
                a = anyone();
                return due("goes " + a, gate.goes(a), model.goes(a));
            case 21:
            case 22:
                a = anyone();
                b = pick(0, 1);
                return due("down " + a + " " + b, gate.down(a, b), model.down(a, b));
            case 23:
            case 24:
                a = anyone();
                b = random.nextBoolean() ? pick(0, 60) : pick(0, 5);
                c = pick(0, 1);
                return due("gone " + a + " " + b + " " + c, gate.gone(a, b, c), model.gone(a, b, c));
            case 25:
                a = anyone();
                b = anywhere();
                return due("timing " + a + " " + b, gate.timing(a, b), model.timing(a, b));
            case 26:
                a = anyone();
                b = anywhere();
                c = pick(0, 1);
                return due("had " + a + " " + b + " " + c, gate.had(a, b, c), model.had(a, b, c));
            case 27:
                a = pick(0, 1);
                return due("tangle " + a, gate.tangle(a), model.tangle(a));
            case 28:
            case 29:
                a = random.nextBoolean() ? pick(1, 40) : pick(1, 4);
                b = pick(0, 2);
                return due("flock " + a + " " + b, gate.flock(a, b), model.flock(a, b));
            case 30:
                a = pick(1, 40);
                b = pick(0, 1);
                return due("bestGate " + a + " " + b, gate.bestGate(a, b), model.bestGate(a, b));
            case 31:
                a = pick(1, 40);
                b = pick(0, 2);
                return due("bestWinds " + a + " " + b, gate.bestWinds(a, b), model.bestWinds(a, b));
            case 32:
            case 33:
                a = anyone();
                b = anyone();
                c = pick(1, 20);
                d = pick(0, 2);
                return due("rests " + a + " " + b + " " + c + " " + d, gate.rests(a, b, c, d), model.rests(a, b, c, d));
            case 34:
                a = pick(0, 1);
                return due("ring " + a, gate.ring(a), model.ring(a));
            case 35:
                a = pick(0, 9999);
                b = anyone();
                return due("pence " + a + " " + b, gate.pence(a, b), model.pence(a, b));
            case 36:
            case 37:
                return stepNote();
            case 38:
                a = pick(0, 1);
                return due("ruled " + a, gate.ruled(a), model.ruled(a));
            case 39:
                a = pick(0, 60);
                b = pick(0, 1);
                return due("look " + a + " " + b, gate.look(a, b), model.look(a, b));
            case 40:
                a = random.nextInt();
                return due("seed " + a, gate.seed(a), model.seed(a));
            case 41:
                a = pick(1, 10);
                b = pick(1, 60);
                c = pick(0, 100);
                d = pick(0, 1);
                return due("gusts " + a + " " + b + " " + c + " " + d, gate.gusts(a, b, c, d), model.gusts(a, b, c, d));
            case 42:
                a = pick(0, 3);
                return due("image " + a, gate.image(a), model.image(a)) && all();
            default:
                a = pick(0, 3);
                return due("back " + a, gate.back(a), model.back(a)) && all();
        }
    }

    /** Half of the notes tell what some rule would bring, so that more than one note can be so. */
    private boolean stepNote() {
        int n = random.nextInt(8) == 0 ? pick(NONE, 60) : pick(0, 12);
        int who = anyone();
        int cell = random.nextInt(6) == 0 ? NONE : anywhere();
        if (random.nextInt(3) > 0 && model.at(who) != null && n >= 0 && n <= 60) {
            Model.Snap s = model.told.copy();
            int rule = random.nextInt(model.rules.size() + 1) - 1;
            for (int i = 0; i < n; i++) {
                model.pass(s, model.letGo(s, rule < 0 ? null : model.rules.get(rule), null), null);
            }
            cell = s.people.get(who).cell;
        }
        return due("note " + n + " " + who + " " + cell, gate.note(n, who, cell), model.note(n, who, cell));
    }

    private boolean all() {
        boolean fine = true;
        for (int what = 0; what < 15; what++) {
            if (gate.count(what) != model.count(what)) {
                fine = due("count " + what, gate.count(what), model.count(what));
            }
        }
        for (int p = 0; p < model.count(2); p++) {
            for (int what = 0; what < 5; what++) {
                if (gate.person(p, what) != model.person(p, what)) {
                    fine = due("person " + p + " " + what, gate.person(p, what), model.person(p, what));
                }
            }
        }
        for (int cell = 0; cell < 49; cell++) {
            if (gate.gateIn(cell) != model.gateIn(cell)) {
                fine = due("gateIn " + cell, gate.gateIn(cell), model.gateIn(cell));
            }
        }
        return fine;
    }

    private static final int NONE = -1;
}
