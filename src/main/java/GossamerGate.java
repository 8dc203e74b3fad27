/**
 * A country of cells, winds, people and gates, told in a language; people let go by rules drift
 * through its hours. ../shared/DOC.md promises what each public method answers.
 */
public final class GossamerGate {
    public static final int NONE = -1;

    private static final int NO_SUCH = -2;
    private static final int REFUSED = -3;
    private static final int LAND = 0;
    private static final int AIR = 1;
    private static final int SEA = 2;
    private static final int MOST_PEOPLE = 6;
    private static final int MOST_RULES = 6;
    private static final int MOST_WINDS = 12;
    private static final int MOST_THREAD = 60;
    private static final int MOST_NOTES = 10;
    private static final int MOST_IMAGES = 4;
    private static final int LAST_HOUR = 999;
    private static final int HOURS_DOWN = 100;
    private static final int HOURS_SEEN = 200;
    private static final int HOURS_RUNG = 60;
    private static final int HOURS_NOTED = 60;
    private static final int RESTS_EACH = 4;

    private final Tape tape = new Tape();
    private final CountryReader countryReader = new CountryReader(tape);
    private final RuleReader ruleReader = new RuleReader(tape);
    private final Country draft = new Country();
    private final Rule[] rules = new Rule[MOST_RULES];
    private int ruleCount = 0;
    private final World world = new World();
    private final World[] images = new World[MOST_IMAGES];
    private final History history = new History();
    private final Hours hours = new Hours(world.land);
    private final Hours trial = new Hours(world.land);
    private final int[] ringKeys = new int[(HOURS_RUNG + 1) * MOST_PEOPLE];
    private final int[] gainsOne = new int[RESTS_EACH * RESTS_EACH];
    private final int[] gainsOther = new int[RESTS_EACH * RESTS_EACH];
    private final int[] spots = new int[(MOST_RULES + 1) * MOST_PEOPLE];
    private int spotRows = 0;

    public GossamerGate() {
        for (int i = 0; i < MOST_RULES; i++) {
            rules[i] = new Rule();
        }
        for (int i = 0; i < MOST_IMAGES; i++) {
            images[i] = new World();
        }
    }

    // ---- the tape, the country and the rules

    public int feed(int a, int b, int c, int d, int e) {
        if (!tape.hasRoom()) {
            return NONE;
        }
        tape.addFour(a);
        tape.addFour(b);
        tape.addFour(c);
        tape.addFour(d);
        tape.addFour(e);
        return tape.length;
    }

    public int end(int n) {
        if (outside(n, 0, tape.length)) {
            return NONE;
        }
        tape.length = n;
        return n;
    }

    public int country() {
        int fault = countryReader.readInto(draft);
        if (fault != 0) {
            return NO_SUCH - fault;
        }
        tape.length = 0;
        world.settle(draft);
        history.forget();
        return world.day.people;
    }

    public int rule() {
        if (ruleCount >= MOST_RULES) {
            return NONE;
        }
        int fault = ruleReader.readInto(rules[ruleCount]);
        // Unlike a country's, a rule's fault leaves nothing on the tape.
        tape.length = 0;
        if (fault != 0) {
            return NO_SUCH - fault;
        }
        ruleCount++;
        return ruleCount - 1;
    }

    public int force(int rule) {
        if (outside(rule, NONE, ruleCount - 1)) {
            return NO_SUCH;
        }
        int before = world.inForce;
        world.inForce = rule;
        return before;
    }

    // ---- how it is

    public int person(int person, int what) {
        if (!isPerson(person) || outside(what, 0, 4)) {
            return NO_SUCH;
        }
        Day day = world.day;
        switch (what) {
            case 0:
                return day.cell[person];
            case 1:
                return day.thread[person];
            case 2:
                return world.land.heavy[person];
            case 3:
                return day.place[person];
            default:
                return day.tangled[person];
        }
    }

    public int wind(int hour, int what) {
        if (!isTold() || outside(hour, 0, world.land.round() - 1) || outside(what, 0, 1)) {
            return NONE;
        }
        return what == 0 ? world.land.way[hour] : world.land.strength[hour];
    }

    public int gateIn(int cell) {
        if (!isCell(cell)) {
            return NONE;
        }
        return world.day.hasGate(cell) ? 1 : 0;
    }

    public int count(int what) {
        Day day = world.day;
        switch (what) {
            case 0:
                return world.land.side;
            case 1:
                return isTold() ? world.land.round() : 0;
            case 2:
                return day.people;
            case 3:
                return ruleCount;
            case 4:
                return world.inForce;
            case 5:
                return day.hour;
            case 6:
                return day.bitsIn(AIR);
            case 7:
                return day.bitsIn(SEA);
            case 8:
                return day.sumOf(day.thread);
            case 9:
                return day.sumOf(day.tangled);
            case 10:
                return Long.bitCount(day.gates);
            case 11:
                return world.notes;
            case 12:
                return history.size;
            case 13:
                return world.x;
            case 14:
                return tape.length;
            default:
                return NONE;
        }
    }

    // ---- acts

    public int hour() {
        if (!isTold() || world.day.hour >= LAST_HOUR) {
            return NONE;
        }
        history.keep(world.day);
        beginNow(hours);
        int goers = hours.goers();
        hours.pass(goers);
        world.day.copyFrom(hours.day);
        return goers;
    }

    public int tell(int person, int much) {
        if (!isDry(person) || outside(much, 1, 9) || world.day.thread[person] < much) {
            return NONE;
        }
        history.keep(world.day);
        world.day.thread[person] -= much;
        return world.day.thread[person];
    }

    public int save(int person, int much) {
        if (!isDry(person) || outside(much, 1, 9)) {
            return NONE;
        }
        history.keep(world.day);
        world.day.thread[person] = Math.min(MOST_THREAD, world.day.thread[person] + much);
        return world.day.thread[person];
    }

    public int carry(int person, int cell) {
        if (!isOn(person, LAND) || !isCell(cell) || world.day.cell[person] == cell) {
            return NONE;
        }
        history.keep(world.day);
        int before = world.day.cell[person];
        world.day.cell[person] = cell;
        return before;
    }

    public int gate(int cell) {
        if (!isCell(cell)) {
            return NONE;
        }
        history.keep(world.day);
        world.day.turnGate(cell);
        return world.day.hasGate(cell) ? 1 : 0;
    }

    public int undo() {
        if (!history.restoreLast(world.day)) {
            return NONE;
        }
        return history.size;
    }

    // ---- how it goes on

    public int ahead(int person, int n, int what) {
        if (!isPerson(person) || outside(n, 0, 100) || outside(what, 0, 2)) {
            return NO_SUCH;
        }
        beginNow(hours);
        hours.passMany(n);
        switch (what) {
            case 0:
                return hours.day.cell[person];
            case 1:
                return hours.day.thread[person];
            default:
                return hours.day.place[person];
        }
    }

    public int goes(int person) {
        if (!isPerson(person)) {
            return NONE;
        }
        beginNow(hours);
        for (int i = 0; i < HOURS_SEEN; i++) {
            int goers = hours.goers();
            if ((goers & 1 << person) != 0) {
                return hours.day.hour;
            }
            hours.pass(goers);
        }
        return NO_SUCH;
    }

    public int down(int person, int what) {
        if (!isOn(person, AIR) || outside(what, 0, 1)) {
            return REFUSED;
        }
        beginNow(hours);
        int when = hours.comesDown(person, HOURS_DOWN);
        if (when < 0) {
            return NO_SUCH;
        }
        return what == 0 ? when : hours.day.cell[person];
    }

    public int gone(int person, int n, int what) {
        if (!isOn(person, LAND) || outside(n, 0, 60) || outside(what, 0, 1)) {
            return REFUSED;
        }
        beginNow(hours);
        for (int i = 0; i < n; i++) {
            hours.pass(hours.goers() & ~(1 << person));
        }
        int when = sent(hours, person);
        if (when < 0) {
            return NO_SUCH;
        }
        return what == 0 ? hours.day.cell[person] : when;
    }

    public int timing(int person, int cell) {
        if (!isOn(person, LAND) || !isCell(cell)) {
            return NONE;
        }
        beginNow(hours);
        for (int n = 0; n <= 60; n++) {
            trial.beginAt(hours.day, ruleInForce());
            if (sent(trial, person) >= 0 && trial.day.cell[person] == cell) {
                return n;
            }
            hours.pass(hours.goers() & ~(1 << person));
        }
        return NO_SUCH;
    }

    public int had(int person, int cell, int what) {
        if (!isOn(person, LAND) || !isCell(cell) || outside(what, 0, 1)) {
            return NONE;
        }
        int many = 0;
        int least = NO_SUCH;
        for (int thread = 0; thread <= MOST_THREAD; thread++) {
            beginNow(hours);
            hours.day.thread[person] = thread;
            if (sent(hours, person) >= 0 && hours.day.cell[person] == cell) {
                least = many == 0 ? thread : least;
                many++;
            }
        }
        return what == 0 ? many : least;
    }

    public int tangle(int what) {
        if (!isTold() || outside(what, 0, 1)) {
            return NONE;
        }
        beginNow(hours);
        for (int i = 0; i < HOURS_SEEN; i++) {
            hours.pass(hours.goers());
            if (hours.knot != NONE) {
                return what == 0 ? hours.day.hour - 1 : hours.knot;
            }
        }
        return NO_SUCH;
    }

    public int ring(int what) {
        if (!isTold() || outside(what, 0, 1)) {
            return NONE;
        }
        beginNow(hours);
        for (int i = 0; i <= HOURS_RUNG; i++) {
            keepRingKeys(i);
            hours.pass(hours.goers());
        }
        int round = Math.max(1, world.land.round());
        for (int first = 0; first < HOURS_RUNG; first++) {
            for (int later = first + 1; later <= HOURS_RUNG; later++) {
                // Only hours a whole round apart have the same HOUR coming round.
                if ((later - first) % round == 0 && sameRingKeys(first, later)) {
                    return what == 0 ? world.day.hour + first : later - first;
                }
            }
        }
        return NO_SUCH;
    }

    // ---- what had best be done

    public int flock(int n, int what) {
        if (!isTold() || outside(n, 1, 40) || outside(what, 0, 2)) {
            return NONE;
        }
        int able = ableToGo();
        int best = NONE;
        int bestSea = 0;
        int bestTangles = 0;
        for (int set = 0; set < 1 << MOST_PEOPLE; set++) {
            if ((set & ~able) != 0) {
                continue;
            }
            beginNow(hours);
            hours.pass(set);
            hours.passMany(n - 1);
            int sea = Integer.bitCount(hours.day.bitsIn(SEA));
            int tangles = hours.day.sumOf(hours.day.tangled);
            int order = Integer.compare(sea, bestSea);
            order = order != 0 ? order : Integer.compare(tangles, bestTangles);
            order = order != 0 ? order : Integer.compare(Integer.bitCount(best), Integer.bitCount(set));
            if (best == NONE || order < 0) {
                best = set;
                bestSea = sea;
                bestTangles = tangles;
            }
        }
        if (what == 0) {
            return best;
        }
        return what == 1 ? bestSea : bestTangles;
    }

    public int bestGate(int n, int what) {
        if (!isTold() || outside(n, 1, 40) || outside(what, 0, 1)) {
            return NO_SUCH;
        }
        int best = NONE;
        int most = NONE;
        for (int cell = NONE; cell < world.land.cells(); cell++) {
            beginNow(hours);
            if (cell != NONE) {
                hours.day.turnGate(cell);
            }
            hours.passMany(n);
            int moved = movedSince(world.day, hours.day);
            if (moved > most) {
                best = cell;
                most = moved;
            }
        }
        return what == 0 ? best : most;
    }

    public int bestWinds(int n, int what) {
        if (!isTold() || outside(n, 1, 40) || outside(what, 0, 2)) {
            return NO_SUCH;
        }
        int fewest = seaAfter(n, 0, 0);
        int bestOne = NONE;
        int bestOther = NONE;
        for (int one = 0; one < world.land.winds; one++) {
            for (int other = one + 1; other < world.land.winds; other++) {
                int sea = seaAfter(n, one, other);
                if (sea < fewest) {
                    fewest = sea;
                    bestOne = one;
                    bestOther = other;
                }
            }
        }
        if (what == 0) {
            return fewest;
        }
        return what == 1 ? bestOne : bestOther;
    }

    public int rests(int one, int other, int n, int what) {
        if (!isOn(one, LAND) || !isOn(other, LAND) || one == other) {
            return NONE;
        }
        if (outside(n, 1, 20) || outside(what, 0, 2)) {
            return NONE;
        }
        for (int two = 0; two < RESTS_EACH * RESTS_EACH; two++) {
            playRests(one, other, n, two);
        }
        int many = 0;
        int first = NO_SUCH;
        for (int two = 0; two < RESTS_EACH * RESTS_EACH; two++) {
            if (isAtRest(two)) {
                first = many == 0 ? two : first;
                many++;
            }
        }
        if (what == 0) {
            return many;
        }
        if (many == 0) {
            return NO_SUCH;
        }
        return what == 1 ? first / RESTS_EACH : first % RESTS_EACH;
    }

    public int pence(int much, int person) {
        if (!isPerson(person) || outside(much, 0, 9999)) {
            return NONE;
        }
        Day day = world.day;
        int total = day.sumOf(day.thread);
        if (total <= 0) {
            return 0;
        }
        int left = much;
        int sooner = 0;
        int lost = much * day.thread[person] % total;
        for (int p = 0; p < day.people; p++) {
            int lostByOther = much * day.thread[p] % total;
            left -= much * day.thread[p] / total;
            if (lostByOther > lost || lostByOther == lost && p < person) {
                sooner++;
            }
        }
        return much * day.thread[person] / total + (sooner < left ? 1 : 0);
    }

    // ---- days that were told

    public int note(int n, int person, int cell) {
        if (n == NONE) {
            world.notes = 0;
            return 0;
        }
        if (outside(n, 0, HOURS_NOTED) || !isPerson(person) || world.notes >= MOST_NOTES) {
            return NO_SUCH;
        }
        if (cell != NONE && !isCell(cell)) {
            return NO_SUCH;
        }
        world.addNote(n, person, cell);
        return world.notes;
    }

    public int ruled(int what) {
        if (!isTold() || outside(what, 0, 1)) {
            return REFUSED;
        }
        int first = followRules(0);
        return what == 0 ? spotRows : first;
    }

    public int look(int n, int what) {
        if (!isTold() || outside(n, 0, HOURS_NOTED) || outside(what, 0, 1)) {
            return NONE;
        }
        followRules(n);
        int best = NO_SUCH;
        int fewest = NO_SUCH;
        for (int p = 0; p < world.day.people && spotRows > 0; p++) {
            int alike = mostAlike(p);
            if (best == NO_SUCH || alike < fewest) {
                best = p;
                fewest = alike;
            }
        }
        return what == 0 ? best : fewest;
    }

    // ---- drawn gusts

    public int seed(int x) {
        if (x < 0) {
            return NONE;
        }
        int before = world.x;
        world.x = x;
        return before;
    }

    public int gusts(int m, int n, int p, int what) {
        if (!isTold() || outside(m, 1, 10) || outside(n, 1, 60)) {
            return NONE;
        }
        if (outside(p, 0, 100) || outside(what, 0, 1)) {
            return NONE;
        }
        int x = world.x;
        int sea = 0;
        int tangles = 0;
        for (int i = 0; i < m; i++) {
            beginNow(hours);
            for (int h = 0; h < n; h++) {
                x = stirred(x);
                if (drawOf(x) % 100 < p) {
                    int wayDrawn = stirred(x);
                    x = stirred(wayDrawn);
                    hours.blow(drawOf(wayDrawn) % 4, drawOf(x) % 4);
                }
                hours.pass(hours.goers());
            }
            sea += Integer.bitCount(hours.day.bitsIn(SEA));
            tangles += hours.day.sumOf(hours.day.tangled) - world.day.sumOf(world.day.tangled);
        }
        return what == 0 ? sea : tangles;
    }

    // ---- images

    public int image(int k) {
        if (outside(k, 0, MOST_IMAGES - 1)) {
            return NONE;
        }
        images[k].copyFrom(world);
        images[k].made = true;
        return world.day.hour;
    }

    public int back(int k) {
        if (outside(k, 0, MOST_IMAGES - 1) || !images[k].made) {
            return NONE;
        }
        world.copyFrom(images[k]);
        history.forget();
        return world.day.hour;
    }

    // ---- what the calls share

    private static boolean outside(int number, int least, int most) {
        return number < least || number > most;
    }

    private boolean isTold() {
        return world.land.side > 0;
    }

    private boolean isCell(int cell) {
        return !outside(cell, 0, world.land.cells() - 1);
    }

    private boolean isPerson(int person) {
        return !outside(person, 0, world.day.people - 1);
    }

    private boolean isOn(int person, int place) {
        return isPerson(person) && world.day.place[person] == place;
    }

    private boolean isDry(int person) {
        return isPerson(person) && world.day.place[person] != SEA;
    }

    private Rule ruleAt(int k) {
        return outside(k, 0, ruleCount - 1) ? null : rules[k];
    }

    private Rule ruleInForce() {
        return ruleAt(world.inForce);
    }

    private void beginNow(Hours run) {
        run.beginAt(world.day, ruleInForce());
    }

    /** The HOUR in which one who goes now, from wherever they are, comes down; NONE if never. */
    private static int sent(Hours run, int person) {
        if (!run.hasThreadToGo(person)) {
            return NONE;
        }
        run.pass(run.goers() | 1 << person);
        if (run.day.place[person] != AIR) {
            return run.day.hour - 1;
        }
        return run.comesDown(person, HOURS_DOWN - 1);
    }

    private void keepRingKeys(int row) {
        Day day = hours.day;
        for (int p = 0; p < day.people; p++) {
            ringKeys[row * MOST_PEOPLE + p] = (day.place[p] * 64 + day.thread[p]) * 64 + day.cell[p] + 1;
        }
    }

    private boolean sameRingKeys(int row, int other) {
        for (int p = 0; p < world.day.people; p++) {
            if (ringKeys[row * MOST_PEOPLE + p] != ringKeys[other * MOST_PEOPLE + p]) {
                return false;
            }
        }
        return true;
    }

    private int ableToGo() {
        beginNow(hours);
        int bits = 0;
        for (int p = 0; p < world.day.people; p++) {
            if (world.day.place[p] == LAND && hours.hasThreadToGo(p)) {
                bits |= 1 << p;
            }
        }
        return bits;
    }

    private static int movedSince(Day before, Day then) {
        int moved = 0;
        for (int p = 0; p < then.people; p++) {
            if (then.place[p] != SEA && then.cell[p] != before.cell[p]) {
                moved++;
            }
        }
        return moved;
    }

    private int seaAfter(int n, int one, int other) {
        beginNow(hours);
        hours.swapWinds(one, other);
        hours.passMany(n);
        return Integer.bitCount(hours.day.bitsIn(SEA));
    }

    private void playRests(int one, int other, int n, int two) {
        int flownOne = 0;
        int flownOther = 0;
        beginNow(hours);
        for (int h = 0; h < n; h++) {
            int goers = hours.goers();
            if (h < two / RESTS_EACH) {
                goers &= ~(1 << one);
            }
            if (h < two % RESTS_EACH) {
                goers &= ~(1 << other);
            }
            hours.pass(goers);
            flownOne += hours.flew >> one & 1;
            flownOther += hours.flew >> other & 1;
        }
        gainsOne[two] = flownOne - (hours.day.place[one] == SEA ? 10 : 0);
        gainsOther[two] = flownOther - (hours.day.place[other] == SEA ? 10 : 0);
    }

    private boolean isAtRest(int two) {
        int one = two / RESTS_EACH;
        int other = two % RESTS_EACH;
        for (int k = 0; k < RESTS_EACH; k++) {
            if (gainsOne[k * RESTS_EACH + other] > gainsOne[two]) {
                return false;
            }
            if (gainsOther[one * RESTS_EACH + k] > gainsOther[two]) {
                return false;
            }
        }
        return true;
    }

    /** The first rule by which all notes are so; each such has a row of where all are in an hour. */
    private int followRules(int hourSeen) {
        int first = NO_SUCH;
        spotRows = 0;
        for (int k = NONE; k < ruleCount; k++) {
            if (suitsNotes(k, hourSeen)) {
                first = spotRows == 0 ? k : first;
                spotRows++;
            }
        }
        return first;
    }

    private boolean suitsNotes(int rule, int hourSeen) {
        hours.beginAt(world.land.begin, ruleAt(rule));
        for (int h = 0; h <= HOURS_NOTED; h++) {
            if (!world.notesHold(hours.day)) {
                return false;
            }
            if (h == hourSeen) {
                keepSpots();
            }
            hours.pass(hours.goers());
        }
        return true;
    }

    private void keepSpots() {
        if (outside(spotRows, 0, MOST_RULES)) {
            return;
        }
        for (int p = 0; p < hours.day.people; p++) {
            spots[spotRows * MOST_PEOPLE + p] = hours.day.cell[p];
        }
    }

    private int mostAlike(int person) {
        int most = 0;
        for (int row = 0; row < spotRows; row++) {
            int alike = 0;
            for (int other = 0; other < spotRows; other++) {
                if (spots[row * MOST_PEOPLE + person] == spots[other * MOST_PEOPLE + person]) {
                    alike++;
                }
            }
            most = Math.max(most, alike);
        }
        return most;
    }

    private static int stirred(int x) {
        return (int) (x * 1103515245L + 12345L & 2147483647L);
    }

    private static int drawOf(int x) {
        return x / 65536;
    }

    /** The bytes that were fed, each 0 to 255. */
    private static final class Tape {
        static final int ROOM = 400;
        static final int FEED = 20;

        final int[] bytes = new int[ROOM];
        int length = 0;

        boolean hasRoom() {
            return length + FEED <= ROOM;
        }

        void addFour(int number) {
            for (int shift = 24; shift >= 0 && length < ROOM; shift -= 8) {
                bytes[length] = number >> shift & 255;
                length++;
            }
        }
    }

    /** Reads the tape piece by piece, and keeps the first fault along it. */
    private static final class Tokens {
        static final int END = 0;
        static final int NUMBER = 1;
        static final int WORD = 2;
        static final int MARK = 3;

        static final int CANNOT_STAND = 0;
        static final int BAD_NUMBER = 1;
        static final int TOO_DEEP = 2;
        static final int TOO_MANY_VALUES = 3;
        static final int TOO_MANY_CLAUSES = 4;

        /** Added to a mark that an = follows: <= and >= are one mark each. */
        static final int OR_EQUAL = 256;
        private static final int MOST_DIGITS = 5;

        private final Tape tape;
        private int start = 0;
        private int at = 0;
        int kind = END;
        /** A number, NONE if it has too many digits; of a mark its byte; of others NONE. */
        int value = NONE;
        int fault = 0;

        Tokens(Tape tape) {
            this.tape = tape;
        }

        void restart() {
            at = 0;
            fault = 0;
            advance();
        }

        void advance() {
            while (at < tape.length && tape.bytes[at] == ' ') {
                at++;
            }
            start = at;
            value = NONE;
            if (at >= tape.length) {
                kind = END;
                return;
            }
            kind = kindOf(tape.bytes[at]);
            if (kind == MARK) {
                takeMark();
                return;
            }
            while (at < tape.length && kindOf(tape.bytes[at]) == kind) {
                at++;
            }
            if (kind == NUMBER && at - start <= MOST_DIGITS) {
                takeNumber();
            }
        }

        private static int kindOf(int sign) {
            if (sign >= '0' && sign <= '9') {
                return NUMBER;
            }
            return sign >= 'a' && sign <= 'z' ? WORD : MARK;
        }

        private void takeNumber() {
            value = 0;
            for (int i = start; i < at && i < tape.length; i++) {
                value = value * 10 + tape.bytes[i] - '0';
            }
        }

        private void takeMark() {
            if (at >= tape.length) {
                return;
            }
            value = tape.bytes[at];
            at++;
            if ((value == '<' || value == '>') && at < tape.length && tape.bytes[at] == '=') {
                value += OR_EQUAL;
                at++;
            }
        }

        boolean isMark(int mark) {
            return kind == MARK && value == mark;
        }

        /** Which of the words of a list, parted by one blank each, stands here; NONE if none does. */
        int wordAmong(String list) {
            if (kind != WORD) {
                return NONE;
            }
            int number = 0;
            int alike = 0;
            for (int i = 0; i <= list.length(); i++) {
                char sign = i < list.length() ? list.charAt(i) : ' ';
                if (sign == ' ') {
                    if (alike == at - start) {
                        return number;
                    }
                    number++;
                    alike = 0;
                } else if (alike >= 0 && alike < at - start && tape.bytes[start + alike] == sign) {
                    alike++;
                } else {
                    alike = NONE;
                }
            }
            return NONE;
        }

        void fail(int what) {
            if (fault == 0) {
                fault = 1 + 8 * start + what;
            }
        }

        /** A number of a clause; behind a fault nothing is read any more. */
        int takeWithin(int least, int most) {
            if (fault != 0) {
                return 0;
            }
            if (kind != NUMBER) {
                fail(CANNOT_STAND);
                return 0;
            }
            int number = value;
            if (outside(number, least, most)) {
                fail(BAD_NUMBER);
                return 0;
            }
            advance();
            return number;
        }

        /** Whether another clause comes: the text must end here, or go on behind a semicolon. */
        boolean takeSemicolon() {
            if (fault != 0 || kind == END) {
                return false;
            }
            if (!isMark(';')) {
                fail(CANNOT_STAND);
                return false;
            }
            advance();
            return true;
        }
    }

    /** Reads the tape as a country. */
    private static final class CountryReader {
        private static final int MOST_CLAUSES = 40;
        private static final String CLAUSES = "country wind person gate";
        private static final int COUNTRY = 0;
        private static final int WIND = 1;
        private static final int PERSON = 2;

        private final Tokens tokens;

        CountryReader(Tape tape) {
            tokens = new Tokens(tape);
        }

        /** The fault, 0 if there is none. */
        int readInto(Country land) {
            land.clear();
            tokens.restart();
            boolean more = true;
            for (int clause = 0; clause <= MOST_CLAUSES && more; clause++) {
                readClause(land, clause);
                more = tokens.takeSemicolon();
            }
            return tokens.fault;
        }

        private void readClause(Country land, int clause) {
            int which = tokens.wordAmong(CLAUSES);
            if (which == NONE) {
                tokens.fail(Tokens.CANNOT_STAND);
                return;
            }
            if (!hasPlaceFor(land, clause, which)) {
                tokens.fail(Tokens.TOO_MANY_CLAUSES);
                return;
            }
            tokens.advance();
            if (which == COUNTRY) {
                land.side = tokens.takeWithin(2, Country.MOST_SIDE);
            } else if (which == WIND) {
                readWind(land);
            } else if (which == PERSON) {
                readPerson(land);
            } else {
                readGate(land);
            }
        }

        private static boolean hasPlaceFor(Country land, int clause, int which) {
            if (clause >= MOST_CLAUSES || (clause == 0) != (which == COUNTRY)) {
                return false;
            }
            if (which == WIND) {
                return land.winds < MOST_WINDS;
            }
            return which != PERSON || land.begin.people < MOST_PEOPLE;
        }

        private void readWind(Country land) {
            int way = tokens.takeWithin(0, 3);
            int strength = tokens.takeWithin(0, 3);
            if (tokens.fault == 0 && land.winds < MOST_WINDS) {
                land.way[land.winds] = way;
                land.strength[land.winds] = strength;
                land.winds++;
            }
        }

        private void readPerson(Country land) {
            int cell = tokens.takeWithin(0, land.cells() - 1);
            int thread = tokens.takeWithin(0, MOST_THREAD);
            int heavy = tokens.takeWithin(1, 9);
            int person = land.begin.people;
            if (tokens.fault == 0 && person < MOST_PEOPLE) {
                land.begin.cell[person] = cell;
                land.begin.thread[person] = thread;
                land.heavy[person] = heavy;
                land.begin.people++;
            }
        }

        private void readGate(Country land) {
            int cell = tokens.takeWithin(0, land.cells() - 1);
            if (tokens.fault == 0 && !land.begin.hasGate(cell)) {
                land.begin.turnGate(cell);
            }
        }
    }

    /** Reads the tape as a rule. */
    private static final class RuleReader {
        private static final int MOST_CLAUSES = 12;
        private static final int MOST_DEEP = 10;
        private static final int MOST_VALUES = 60;

        private final Tokens tokens;
        private final Rule rule = new Rule();
        private int values = 0;

        RuleReader(Tape tape) {
            tokens = new Tokens(tape);
        }

        /** The fault, 0 if there is none; the target changes only then. */
        int readInto(Rule target) {
            rule.clear();
            values = 0;
            tokens.restart();
            boolean more = true;
            for (int clause = 0; clause <= MOST_CLAUSES && more; clause++) {
                if (tokens.wordAmong("go") == NONE) {
                    tokens.fail(Tokens.CANNOT_STAND);
                } else if (clause >= MOST_CLAUSES) {
                    tokens.fail(Tokens.TOO_MANY_CLAUSES);
                }
                tokens.advance();
                readSum();
                int sumEnd = rule.length;
                if (tokens.fault == 0 && tokens.wordAmong("if") != NONE) {
                    tokens.advance();
                    readTest(0);
                }
                rule.closeClause(sumEnd);
                more = tokens.takeSemicolon();
            }
            if (tokens.fault == 0) {
                target.copyFrom(rule);
            }
            return tokens.fault;
        }

        private void readTest(int depth) {
            boolean orWaits = false;
            readFact(depth);
            for (int i = 0; i < Tape.ROOM && tokens.fault == 0; i++) {
                boolean isAnd = tokens.wordAmong("and") != NONE;
                if (!isAnd && tokens.wordAmong("or") == NONE) {
                    break;
                }
                tokens.advance();
                if (isAnd) {
                    readFact(depth);
                    rule.add(Rule.AND);
                } else {
                    // An or is put behind all of the part that follows it.
                    if (orWaits) {
                        rule.add(Rule.OR);
                    }
                    orWaits = true;
                    readFact(depth);
                }
            }
            if (orWaits) {
                rule.add(Rule.OR);
            }
        }

        private void readFact(int depth) {
            boolean isNot = tokens.wordAmong("not") != NONE;
            if (isNot || tokens.isMark('[')) {
                if (depth >= MOST_DEEP) {
                    tokens.fail(Tokens.TOO_DEEP);
                }
                if (tokens.fault != 0) {
                    return;
                }
                tokens.advance();
                if (isNot) {
                    readFact(depth + 1);
                    rule.add(Rule.NOT);
                } else {
                    readTest(depth + 1);
                    takeBracket();
                }
                return;
            }
            readSum();
            int sign = tokens.kind == Tokens.MARK ? comparisonOf(tokens.value) : NONE;
            if (sign == NONE) {
                tokens.fail(Tokens.CANNOT_STAND);
            }
            takeValue();
            tokens.advance();
            readSum();
            rule.add(sign);
        }

        private void takeBracket() {
            if (!tokens.isMark(']')) {
                tokens.fail(Tokens.CANNOT_STAND);
            }
            tokens.advance();
        }

        private void readSum() {
            int waiting = NONE;
            readValue();
            for (int i = 0; i < Tape.ROOM && tokens.fault == 0; i++) {
                int operator = tokens.kind == Tokens.MARK ? operatorOf(tokens.value) : NONE;
                if (operator == NONE) {
                    break;
                }
                tokens.advance();
                if (operator == Rule.PLUS || operator == Rule.MINUS) {
                    // A plus or minus is put behind all of the term that follows it.
                    if (waiting != NONE) {
                        rule.add(waiting);
                    }
                    waiting = operator;
                    readValue();
                } else {
                    readValue();
                    rule.add(operator);
                }
            }
            if (waiting != NONE) {
                rule.add(waiting);
            }
        }

        private void readValue() {
            if (tokens.fault != 0) {
                return;
            }
            int word = tokens.wordAmong(Rule.WORDS);
            if (tokens.kind != Tokens.NUMBER && word == NONE) {
                tokens.fail(Tokens.CANNOT_STAND);
            } else if (word == NONE && tokens.value == NONE) {
                tokens.fail(Tokens.BAD_NUMBER);
            }
            takeValue();
            rule.add(word == NONE ? tokens.value : Rule.FIRST_WORD + word);
            tokens.advance();
        }

        /** One more of the values and facts; a fault ahead of it, or of its place, stays the first. */
        private void takeValue() {
            if (values >= MOST_VALUES) {
                tokens.fail(Tokens.TOO_MANY_VALUES);
            }
            values++;
        }

        private static int comparisonOf(int mark) {
            switch (mark) {
                case '<':
                    return Rule.LESS;
                case '<' + Tokens.OR_EQUAL:
                    return Rule.AT_MOST;
                case '=':
                    return Rule.EQUAL;
                case '>' + Tokens.OR_EQUAL:
                    return Rule.AT_LEAST;
                case '>':
                    return Rule.MORE;
                default:
                    return NONE;
            }
        }

        private static int operatorOf(int mark) {
            switch (mark) {
                case '+':
                    return Rule.PLUS;
                case '-':
                    return Rule.MINUS;
                case '*':
                    return Rule.TIMES;
                case '/':
                    return Rule.BY;
                case '%':
                    return Rule.REST;
                default:
                    return NONE;
            }
        }
    }

    /** A rule as steps on a stack: numbers, words, and operators behind what they join. */
    private static final class Rule {
        static final String WORDS = "person row column thread heavy way force next air here tangled hour";
        static final int WORD_COUNT = 12;
        static final int FIRST_WORD = 100000;
        static final int PLUS = 200000;
        static final int MINUS = 200001;
        static final int TIMES = 200002;
        static final int BY = 200003;
        static final int REST = 200004;
        static final int LESS = 200005;
        static final int AT_MOST = 200006;
        static final int EQUAL = 200007;
        static final int AT_LEAST = 200008;
        static final int MORE = 200009;
        static final int AND = 200010;
        static final int OR = 200011;
        static final int NOT = 200012;
        private static final int MOST_CLAUSES = 12;
        private static final int MOST_WAITING = 64;

        /** No step is told in less than a byte, so the tape's room is room enough. */
        private final int[] steps = new int[Tape.ROOM];
        private final int[] sumEnds = new int[MOST_CLAUSES];
        private final int[] testEnds = new int[MOST_CLAUSES];
        private final long[] stack = new long[MOST_WAITING];
        private int clauses = 0;
        int length = 0;

        void clear() {
            clauses = 0;
            length = 0;
        }

        void copyFrom(Rule other) {
            clauses = other.clauses;
            length = other.length;
            System.arraycopy(other.steps, 0, steps, 0, Tape.ROOM);
            System.arraycopy(other.sumEnds, 0, sumEnds, 0, MOST_CLAUSES);
            System.arraycopy(other.testEnds, 0, testEnds, 0, MOST_CLAUSES);
        }

        void add(int step) {
            if (length < Tape.ROOM) {
                steps[length] = step;
                length++;
            }
        }

        void closeClause(int sumEnd) {
            if (clauses < MOST_CLAUSES) {
                sumEnds[clauses] = sumEnd;
                testEnds[clauses] = length;
                clauses++;
            }
        }

        /** Whether the sum of the first clause whose test holds is above 0, by these words. */
        boolean letsGo(long[] words) {
            int from = 0;
            for (int clause = 0; clause < clauses; clause++) {
                int sumEnd = sumEnds[clause];
                int testEnd = testEnds[clause];
                if (sumEnd == testEnd || valueOf(sumEnd, testEnd, words) != 0) {
                    return valueOf(from, sumEnd, words) > 0;
                }
                from = testEnd;
            }
            return false;
        }

        private long valueOf(int from, int to, long[] words) {
            int top = 0;
            for (int i = from; i < to && i < Tape.ROOM; i++) {
                int step = steps[i];
                if (step < PLUS) {
                    if (top < MOST_WAITING) {
                        stack[top] = step < FIRST_WORD ? step : wordOf(step - FIRST_WORD, words);
                        top++;
                    }
                } else if (step == NOT) {
                    if (top > 0) {
                        stack[top - 1] = stack[top - 1] == 0 ? 1 : 0;
                    }
                } else if (top > 1) {
                    top--;
                    stack[top - 1] = joined(step, stack[top - 1], stack[top]);
                }
            }
            return top > 0 ? stack[top - 1] : 0;
        }

        private static long wordOf(int word, long[] words) {
            return word >= 0 && word < words.length ? words[word] : 0;
        }

        private static long joined(int step, long one, long other) {
            switch (step) {
                case PLUS:
                    return one + other;
                case MINUS:
                    return one - other;
                case TIMES:
                    return one * other;
                case BY:
                    return other == 0 ? 0 : one / other;
                case REST:
                    return other == 0 ? 0 : one % other;
                case LESS:
                    return one < other ? 1 : 0;
                case AT_MOST:
                    return one <= other ? 1 : 0;
                case EQUAL:
                    return one == other ? 1 : 0;
                case AT_LEAST:
                    return one >= other ? 1 : 0;
                case MORE:
                    return one > other ? 1 : 0;
                case AND:
                    return one & other;
                default:
                    return one | other;
            }
        }
    }

    /** What the text told: what stays through all hours, and the day as it begins. */
    private static final class Country {
        static final int MOST_SIDE = 7;

        /** 0: no country was told. */
        int side = 0;
        int winds = 0;
        final int[] way = new int[MOST_WINDS];
        final int[] strength = new int[MOST_WINDS];
        final int[] heavy = new int[MOST_PEOPLE];
        final Day begin = new Day();

        int cells() {
            return side * side;
        }

        /** Without any wind told one calm hour comes round: the first row's zeros. */
        int round() {
            return Math.max(1, winds);
        }

        void clear() {
            side = 0;
            winds = 0;
            way[0] = 0;
            strength[0] = 0;
            begin.clear();
        }

        void copyFrom(Country other) {
            side = other.side;
            winds = other.winds;
            System.arraycopy(other.way, 0, way, 0, MOST_WINDS);
            System.arraycopy(other.strength, 0, strength, 0, MOST_WINDS);
            System.arraycopy(other.heavy, 0, heavy, 0, MOST_PEOPLE);
            begin.copyFrom(other.begin);
        }
    }

    /** All that hours and acts change. */
    private static final class Day {
        int people = 0;
        int hour = 0;
        /** A bit for each cell that has a gate. */
        long gates = 0;
        /** NONE for who is in the sea. */
        final int[] cell = new int[MOST_PEOPLE];
        final int[] thread = new int[MOST_PEOPLE];
        final int[] place = new int[MOST_PEOPLE];
        final int[] tangled = new int[MOST_PEOPLE];

        void clear() {
            people = 0;
            hour = 0;
            gates = 0;
            for (int p = 0; p < MOST_PEOPLE; p++) {
                place[p] = LAND;
                tangled[p] = 0;
            }
        }

        void copyFrom(Day other) {
            people = other.people;
            hour = other.hour;
            gates = other.gates;
            System.arraycopy(other.cell, 0, cell, 0, MOST_PEOPLE);
            System.arraycopy(other.thread, 0, thread, 0, MOST_PEOPLE);
            System.arraycopy(other.place, 0, place, 0, MOST_PEOPLE);
            System.arraycopy(other.tangled, 0, tangled, 0, MOST_PEOPLE);
        }

        boolean hasGate(int where) {
            return (gates >> where & 1) != 0;
        }

        void turnGate(int where) {
            gates ^= 1L << where;
        }

        int bitsIn(int where) {
            int bits = 0;
            for (int p = 0; p < people; p++) {
                if (place[p] == where) {
                    bits |= 1 << p;
                }
            }
            return bits;
        }

        int sumOf(int[] row) {
            int sum = 0;
            for (int p = 0; p < people && p < row.length; p++) {
                sum += row[p];
            }
            return sum;
        }
    }

    /** All that an image keeps: everything but the tape, the rules and the acts to be undone. */
    private static final class World {
        final Country land = new Country();
        final Day day = new Day();
        private final int[] noteHour = new int[MOST_NOTES];
        private final int[] notePerson = new int[MOST_NOTES];
        private final int[] noteCell = new int[MOST_NOTES];
        int notes = 0;
        int x = 0;
        int inForce = NONE;
        boolean made = false;

        void settle(Country told) {
            land.copyFrom(told);
            day.copyFrom(told.begin);
            notes = 0;
        }

        void copyFrom(World other) {
            land.copyFrom(other.land);
            day.copyFrom(other.day);
            System.arraycopy(other.noteHour, 0, noteHour, 0, MOST_NOTES);
            System.arraycopy(other.notePerson, 0, notePerson, 0, MOST_NOTES);
            System.arraycopy(other.noteCell, 0, noteCell, 0, MOST_NOTES);
            notes = other.notes;
            x = other.x;
            inForce = other.inForce;
        }

        void addNote(int hour, int person, int cell) {
            if (notes < MOST_NOTES) {
                noteHour[notes] = hour;
                notePerson[notes] = person;
                noteCell[notes] = cell;
                notes++;
            }
        }

        /** Whether the notes of a day's hour are so in it. */
        boolean notesHold(Day seen) {
            for (int i = 0; i < notes; i++) {
                if (noteHour[i] == seen.hour && seen.cell[notePerson[i]] != noteCell[i]) {
                    return false;
                }
            }
            return true;
        }
    }

    /** The days ahead of the last acts, in a row that comes round. */
    private static final class History {
        private static final int ROOM = 20;

        private final Day[] days = new Day[ROOM];
        private int last = 0;
        int size = 0;

        History() {
            for (int i = 0; i < ROOM; i++) {
                days[i] = new Day();
            }
        }

        void forget() {
            size = 0;
        }

        void keep(Day day) {
            last = last + 1 < ROOM ? last + 1 : 0;
            days[last].copyFrom(day);
            size = Math.min(ROOM, size + 1);
        }

        boolean restoreLast(Day day) {
            if (size <= 0) {
                return false;
            }
            day.copyFrom(days[last]);
            last = last > 0 ? last - 1 : ROOM - 1;
            size--;
            return true;
        }
    }

    /** A day of its own that hours go over, so that nothing asked changes what is. */
    private static final class Hours {
        private final Country land;
        private final long[] words = new long[Rule.WORD_COUNT];
        final Day day = new Day();
        private Rule rule = null;
        private int swapOne = 0;
        private int swapOther = 0;
        private int gustWay = NONE;
        private int gustStrength = NONE;
        /** Who was in the air when the last hour's drifting came, as bits. */
        int flew = 0;
        /** The least cell in which the last hour tangled any; NONE if none. */
        int knot = NONE;

        Hours(Country land) {
            this.land = land;
        }

        void beginAt(Day from, Rule inForce) {
            day.copyFrom(from);
            rule = inForce;
            swapWinds(0, 0);
            calm();
        }

        void swapWinds(int one, int other) {
            swapOne = one;
            swapOther = other;
        }

        /** The next hour alone has this wind in place of its own. */
        void blow(int way, int strength) {
            gustWay = way;
            gustStrength = strength;
        }

        private void calm() {
            gustWay = NONE;
            gustStrength = NONE;
        }

        boolean hasThreadToGo(int person) {
            return day.thread[person] >= land.heavy[person];
        }

        private int windOf(int hour) {
            int index = land.winds > 0 ? hour % land.winds : 0;
            if (index == swapOne) {
                return swapOther;
            }
            return index == swapOther ? swapOne : index;
        }

        private int wayNow() {
            return gustWay != NONE ? gustWay : land.way[windOf(day.hour)];
        }

        private int strengthNow() {
            return gustStrength != NONE ? gustStrength : land.strength[windOf(day.hour)];
        }

        /** Whom gates and the rule let go in the hour that begins, as bits. */
        int goers() {
            int bits = 0;
            for (int p = 0; p < day.people; p++) {
                if (day.place[p] == LAND && day.hasGate(day.cell[p]) && hasThreadToGo(p)) {
                    if (rule == null) {
                        bits |= 1 << p;
                    } else {
                        setWords(p);
                        bits |= rule.letsGo(words) ? 1 << p : 0;
                    }
                }
            }
            return bits;
        }

        /** The words of a rule, in the order of its list. */
        private void setWords(int person) {
            int side = Math.max(1, land.side);
            int here = day.cell[person];
            int others = 0;
            for (int p = 0; p < day.people; p++) {
                if (p != person && day.place[p] == LAND && day.cell[p] == here) {
                    others++;
                }
            }
            words[0] = person;
            words[1] = here / side;
            words[2] = here % side;
            words[3] = day.thread[person];
            words[4] = land.heavy[person];
            words[5] = wayNow();
            words[6] = strengthNow();
            words[7] = land.strength[windOf(day.hour + 1)];
            words[8] = Integer.bitCount(day.bitsIn(AIR));
            words[9] = others;
            words[10] = day.tangled[person];
            words[11] = day.hour;
        }

        void passMany(int n) {
            for (int i = 0; i < n; i++) {
                pass(goers());
            }
        }

        /** An hour in which just these go. */
        void pass(int goers) {
            lift(goers);
            drift();
            tieKnots();
            setDown();
            calm();
            day.hour++;
        }

        private void lift(int goers) {
            for (int p = 0; p < day.people; p++) {
                if (day.place[p] == LAND) {
                    if ((goers & 1 << p) != 0) {
                        day.place[p] = AIR;
                    } else {
                        day.thread[p] = Math.min(MOST_THREAD, day.thread[p] + 1);
                    }
                }
            }
            flew = day.bitsIn(AIR);
        }

        private void drift() {
            int way = wayNow();
            int strength = strengthNow();
            int rows = way == 0 ? -strength : way == 2 ? strength : 0;
            int columns = way == 3 ? -strength : way == 1 ? strength : 0;
            int side = Math.max(1, land.side);
            for (int p = 0; p < day.people; p++) {
                if (day.place[p] == AIR) {
                    int row = day.cell[p] / side + rows;
                    int column = day.cell[p] % side + columns;
                    if (outside(row, 0, side - 1) || outside(column, 0, side - 1)) {
                        day.place[p] = SEA;
                        day.cell[p] = NONE;
                        day.thread[p] = 0;
                    } else {
                        day.cell[p] = row * side + column;
                        day.thread[p] = Math.max(0, day.thread[p] - land.heavy[p]);
                    }
                }
            }
        }

        private void tieKnots() {
            knot = NONE;
            int tied = 0;
            for (int p = 0; p < day.people; p++) {
                for (int q = 0; q < p; q++) {
                    if (day.place[p] == AIR && day.place[q] == AIR && day.cell[p] == day.cell[q]) {
                        tied |= 1 << p | 1 << q;
                    }
                }
            }
            for (int p = 0; p < day.people; p++) {
                if ((tied & 1 << p) != 0) {
                    day.place[p] = LAND;
                    day.tangled[p]++;
                    knot = knot == NONE ? day.cell[p] : Math.min(knot, day.cell[p]);
                }
            }
        }

        private void setDown() {
            for (int p = 0; p < day.people; p++) {
                if (day.place[p] == AIR && !hasThreadToGo(p)) {
                    day.place[p] = LAND;
                }
            }
        }

        /** The HOUR, of so many, in which one in the air comes down; NONE if in none. */
        int comesDown(int person, int within) {
            for (int i = 0; i < within; i++) {
                pass(goers());
                if (day.place[person] != AIR) {
                    return day.hour - 1;
                }
            }
            return NONE;
        }
    }
}
