import java.util.function.Supplier;

/** Each boundary that the document names of texts: promises 1 to 6, and the Terms COUNTRY, RULES and FAULTS. */
public final class TextEdgeTest {
    private static final Check CHECK = new Check();
    private static final int CANNOT_STAND = 0;
    private static final int BAD_NUMBER = 1;
    private static final int TOO_DEEP = 2;
    private static final int TOO_MANY_VALUES = 3;
    private static final int TOO_MANY_CLAUSES = 4;

    public static void main(String[] args) {
        newObject();
        feedOrder();
        feedFull();
        end();
        fullTape();
        countryAnswers();
        sides();
        winds();
        people();
        gates();
        firstClause();
        clauses();
        countryBytes();
        blanks();
        firstFault();
        ruleAnswers();
        sixRules();
        fullRules();
        ruleClauses();
        ruleGrammar();
        ruleNumbers();
        ruleWords();
        ruleBytes();
        depth();
        values();
        leastOfOnePlace();
        sumsAndTests();
        goesRound();
        force();
        CHECK.finish();
    }

    // ---- how texts are told here

    private static void country(String text, int want) {
        CHECK.due("country \"" + text + "\"", Check.put(new GossamerGate(), text).country(), want);
    }

    private static void rule(String text, int want) {
        CHECK.due("rule \"" + text + "\"", Check.put(new GossamerGate(), text).rule(), want);
    }

    /** A ^ marks the place of the fault; it is no part of the text. */
    private static void badCountry(int kind, String text) {
        country(text.replace("^", ""), Check.fault(text.indexOf('^'), kind));
    }

    private static void badRule(int kind, String text) {
        rule(text.replace("^", ""), Check.fault(text.indexOf('^'), kind));
    }

    /** Person 1 is in cell 5 of side 3, with thread 7 and heavy 2; person 0 is there too, and can't go. */
    private static void lets(String text, boolean want) {
        GossamerGate g = Check.ruled("country 3;wind 1 0;wind 2 3;person 5 0 9;person 5 7 2;gate 5", text);
        CHECK.due("\"" + text + "\" is told", g.count(3), 1);
        CHECK.due("\"" + text + "\" lets go", g.hour(), want ? 2 : 0);
    }

    private static String padded(String text, int length) {
        return text + Check.times(length - text.length(), " ");
    }

    // ---- promise 1

    private static void newObject() {
        Supplier<GossamerGate> fresh = GossamerGate::new;
        CHECK.stays("new: person", fresh, g -> g.person(0, 0), -2);
        CHECK.stays("new: wind", fresh, g -> g.wind(0, 0), -1);
        CHECK.stays("new: gateIn", fresh, g -> g.gateIn(0), -1);
        CHECK.stays("new: hour", fresh, g -> g.hour(), -1);
        CHECK.stays("new: tell", fresh, g -> g.tell(0, 1), -1);
        CHECK.stays("new: save", fresh, g -> g.save(0, 1), -1);
        CHECK.stays("new: carry", fresh, g -> g.carry(0, 1), -1);
        CHECK.stays("new: gate", fresh, g -> g.gate(0), -1);
        CHECK.stays("new: undo", fresh, g -> g.undo(), -1);
        CHECK.stays("new: ahead", fresh, g -> g.ahead(0, 0, 0), -2);
        CHECK.stays("new: goes", fresh, g -> g.goes(0), -1);
        CHECK.stays("new: down", fresh, g -> g.down(0, 0), -3);
        CHECK.stays("new: gone", fresh, g -> g.gone(0, 0, 0), -3);
        CHECK.stays("new: timing", fresh, g -> g.timing(0, 0), -1);
        CHECK.stays("new: had", fresh, g -> g.had(0, 0, 0), -1);
        CHECK.stays("new: tangle", fresh, g -> g.tangle(0), -1);
        CHECK.stays("new: flock", fresh, g -> g.flock(1, 0), -1);
        CHECK.stays("new: bestGate", fresh, g -> g.bestGate(1, 0), -2);
        CHECK.stays("new: bestWinds", fresh, g -> g.bestWinds(1, 0), -2);
        CHECK.stays("new: rests", fresh, g -> g.rests(0, 1, 1, 0), -1);
        CHECK.stays("new: ring", fresh, g -> g.ring(0), -1);
        CHECK.stays("new: pence", fresh, g -> g.pence(0, 0), -1);
        CHECK.stays("new: note", fresh, g -> g.note(0, 0, 0), -2);
        CHECK.stays("new: note in the sea", fresh, g -> g.note(0, 0, -1), -2);
        CHECK.stays("new: ruled", fresh, g -> g.ruled(0), -3);
        CHECK.stays("new: look", fresh, g -> g.look(0, 0), -1);
        CHECK.stays("new: gusts", fresh, g -> g.gusts(1, 1, 0, 0), -1);
        CHECK.stays("new: back", fresh, g -> g.back(0), -1);
        CHECK.stays("new: force 0", fresh, g -> g.force(0), -2);
        CHECK.stays("new: force none", fresh, g -> g.force(-1), -1);
        CHECK.stays("new: end 0", fresh, g -> g.end(0), 0);
        CHECK.stays("new: end 1", fresh, g -> g.end(1), -1);
        CHECK.stays("new: country", fresh, g -> g.country(), Check.fault(0, CANNOT_STAND));
        CHECK.stays("new: rule", fresh, g -> g.rule(), Check.fault(0, CANNOT_STAND));
        for (int what = 0; what <= 14; what++) {
            CHECK.due("new: count(" + what + ")", new GossamerGate().count(what), what == 4 ? -1 : 0);
        }
    }

    // ---- promise 2

    /** Of each number the highest byte first: a bad byte among blanks is found at its place. */
    private static void feedOrder() {
        for (int place = 0; place < 20; place++) {
            for (int sign : new int[] {0, 1, 'A', 127, 128, 255}) {
                int[] numbers = {0x20202020, 0x20202020, 0x20202020, 0x20202020, 0x20202020};
                int shift = 24 - place % 4 * 8;
                numbers[place / 4] = numbers[place / 4] & ~(255 << shift) | sign << shift;
                GossamerGate g = new GossamerGate();
                CHECK.due("feed", g.feed(numbers[0], numbers[1], numbers[2], numbers[3], numbers[4]), 20);
                CHECK.due("byte " + sign + " at " + place, g.country(), Check.fault(place, CANNOT_STAND));
            }
        }
        GossamerGate g = new GossamerGate();
        g.feed(0x20202020, 0x20202020, 0x20202020, 0x20202020, 0x20202020);
        CHECK.due("behind the tape", g.feed(0x41202020, 0x20202020, 0x20202020, 0x20202020, 0x20202020), 40);
        CHECK.due("behind the tape: its place", g.country(), Check.fault(20, CANNOT_STAND));
    }

    private static void feedFull() {
        for (int length : new int[] {381, 390, 399, 400}) {
            Supplier<GossamerGate> full = () -> Check.put(new GossamerGate(), padded("country 3", length));
            CHECK.stays("feed behind " + length, full, g -> g.feed(0, 0, 0, 0, 0), -1);
            GossamerGate g = full.get();
            g.feed(0, 0, 0, 0, 0);
            CHECK.due("none came behind " + length, g.country(), 0);
        }
        CHECK.due("feed behind 380", Check.put(new GossamerGate(), padded("", 380)).feed(0, 0, 0, 0, 0), 400);
        CHECK.due("feed behind 379", Check.put(new GossamerGate(), padded("", 379)).feed(0, 0, 0, 0, 0), 399);
        CHECK.due("feed behind 1", Check.put(new GossamerGate(), " ").feed(0, 0, 0, 0, 0), 21);
    }

    // ---- promise 3

    private static void end() {
        Supplier<GossamerGate> nine = () -> Check.put(new GossamerGate(), "country 3");
        CHECK.stays("end as long", nine, g -> g.end(9), 9);
        CHECK.stays("end one more", nine, g -> g.end(10), -1);
        CHECK.stays("end -1", nine, g -> g.end(-1), -1);
        CHECK.stays("end the least", nine, g -> g.end(Integer.MIN_VALUE), -1);
        CHECK.stays("end the most", nine, g -> g.end(Integer.MAX_VALUE), -1);
        CHECK.stays("end 401", () -> Check.put(new GossamerGate(), padded("", 400)), g -> g.end(401), -1);
        CHECK.stays("end 400", () -> Check.put(new GossamerGate(), padded("", 400)), g -> g.end(400), 400);
        GossamerGate g = nine.get();
        CHECK.due("end 8", g.end(8), 8);
        CHECK.due("what was cut is gone", g.end(9), -1);
        g.feed(0x34202020, 0x20202020, 0x20202020, 0x20202020, 0x20202020);
        CHECK.due("the first 8 alone stay", g.country(), 0);
        CHECK.due("the first 8 alone stay: side", g.count(0), 4);
        cut("country 23", 9, true, 0);
        cut("country 2;gate 0", 9, true, 0);
        cut("country 22", 7, true, Check.fault(7, CANNOT_STAND));
        cut("country 2;gate 0", 13, true, Check.fault(10, CANNOT_STAND));
        cut("go 1 if 1 <= 1", 11, false, Check.fault(11, CANNOT_STAND));
        cut("go 1 if 1 >= 1", 11, false, Check.fault(11, CANNOT_STAND));
        cut("go 1000001", 8, false, 0);
        cut("go thread", 8, false, Check.fault(3, CANNOT_STAND));
        GossamerGate none = nine.get();
        CHECK.due("end 0", none.end(0), 0);
        CHECK.due("empty", none.country(), Check.fault(0, CANNOT_STAND));
    }

    /** What stood behind the end is no part of the text. */
    private static void cut(String text, int length, boolean isCountry, int want) {
        GossamerGate g = Check.put(new GossamerGate(), text);
        CHECK.due("cut", g.end(length), length);
        CHECK.due("\"" + text + "\" cut to " + length, isCountry ? g.country() : g.rule(), want);
    }

    /** At most 400 bytes; the end is behind the last byte. */
    private static void fullTape() {
        country(padded("country 2", 400), 0);
        country(padded("", 391) + "country 2", 0);
        country(padded("", 400), Check.fault(400, CANNOT_STAND));
        country(padded("country 2", 399) + ";", Check.fault(400, CANNOT_STAND));
        country(padded("country 2", 399) + "x", Check.fault(399, CANNOT_STAND));
        country(padded("country 2;gate", 399) + "4", Check.fault(399, BAD_NUMBER));
        rule(padded("go 1", 400), 0);
        rule(padded("go 1 if", 400), Check.fault(400, CANNOT_STAND));
        rule(padded("go 1 if [1=1", 400), Check.fault(400, CANNOT_STAND));
        rule(padded("go 1", 399) + "]", Check.fault(399, CANNOT_STAND));
    }

    // ---- promise 4

    private static GossamerGate lively() {
        GossamerGate g = Check.ruled("country 3;wind 1 1;wind 2 1;person 0 5 2;person 3 1 3;gate 0;gate 3", "go 1");
        g.seed(77);
        g.image(2);
        g.note(0, 0, 0);
        g.note(9, 1, -1);
        g.hour();
        g.gate(8);
        return g;
    }

    private static void countryAnswers() {
        CHECK.stays("a fault: all stays", () -> Check.put(lively(), "country 3;gate 9"), g -> g.country(), Check.fault(15, BAD_NUMBER));
        CHECK.stays("an empty tape: all stays", TextEdgeTest::lively, g -> g.country(), Check.fault(0, CANNOT_STAND));
        CHECK.stays("a fault at the end: all stays", () -> Check.put(lively(), "country 2;person 0 0 1;"), g -> g.country(),
            Check.fault(23, CANNOT_STAND));
        GossamerGate g = lively();
        CHECK.due("another one", Check.put(g, "country 2").country(), 0);
        int[] want = {2, 1, 0, 1, 0, 0, 0, 0, 0, 0, 0, 0, 0, 77, 0};
        for (int what = 0; what < want.length; what++) {
            CHECK.due("another one: count(" + what + ")", g.count(what), want[what]);
        }
        CHECK.due("another one: nothing can be undone", g.undo(), -1);
        CHECK.due("another one: nobody", g.person(0, 0), -2);
        CHECK.due("another one: cell 4 is no more", g.gateIn(4), -1);
        CHECK.due("another one: notes are no more", g.ruled(0), 2);
        CHECK.due("images stay", g.back(2), 0);
        CHECK.due("images stay: people", g.count(2), 2);
        GossamerGate flown = Check.passed(Check.country("country 2;wind 0 0;person 0 9 1;person 0 9 1;person 3 9 1;gate 0;gate 3"), 1);
        CHECK.due("tangled", flown.count(9), 2);
        CHECK.due("in the air", flown.count(6), 4);
        Check.put(flown, "country 2;person 1 2 3;person 1 2 3;person 1 2 3").country();
        CHECK.due("all are on land", flown.count(6) + flown.count(7), 0);
        CHECK.due("nobody has tangled", flown.count(9), 0);
    }

    private static void sides() {
        for (int side = 2; side <= 7; side++) {
            String text = "country " + side;
            int cells = side * side;
            country(text, 0);
            country(text + ";gate 0;gate " + (cells - 1), 0);
            badCountry(BAD_NUMBER, text + ";gate ^" + cells);
            country(text + ";person 0 0 1;person " + (cells - 1) + " 0 1", 2);
            badCountry(BAD_NUMBER, text + ";person ^" + cells + " 0 1");
            CHECK.due("side", Check.country(text).count(0), side);
            CHECK.due("last cell", Check.country(text).gateIn(cells - 1), 0);
            CHECK.due("no cell behind it", Check.country(text).gateIn(cells), -1);
        }
        badCountry(BAD_NUMBER, "country ^0");
        badCountry(BAD_NUMBER, "country ^1");
        badCountry(BAD_NUMBER, "country ^8");
        badCountry(BAD_NUMBER, "country ^22");
        badCountry(BAD_NUMBER, "country ^99999");
        country("country 00002", 0);
        badCountry(BAD_NUMBER, "country ^000002");
        badCountry(BAD_NUMBER, "country ^4294967298");
        badCountry(CANNOT_STAND, "country^");
        badCountry(CANNOT_STAND, "country ^;");
        badCountry(CANNOT_STAND, "country 2 ^2");
        badCountry(CANNOT_STAND, "country ^-2");
    }

    private static void winds() {
        for (int number = 0; number <= 3; number++) {
            GossamerGate g = Check.country("country 2;wind " + number + " 0;wind 0 " + number);
            CHECK.due("way", g.wind(0, 0), number);
            CHECK.due("force", g.wind(1, 1), number);
        }
        badCountry(BAD_NUMBER, "country 2;wind ^4 0");
        badCountry(BAD_NUMBER, "country 2;wind 3 ^4");
        badCountry(BAD_NUMBER, "country 2;wind ^000000 0");
        badCountry(BAD_NUMBER, "country 2;wind 0 ^000000");
        badCountry(CANNOT_STAND, "country 2;wind^");
        badCountry(CANNOT_STAND, "country 2;wind 0^");
        badCountry(CANNOT_STAND, "country 2;wind 0^;gate 0");
        badCountry(CANNOT_STAND, "country 2;wind 0 0 ^0");
        String twelve = "country 2" + Check.times(11, ";wind 0 0") + ";wind 3 2";
        CHECK.due("twelve winds", Check.country(twelve).count(1), 12);
        CHECK.due("the twelfth: way", Check.country(twelve).wind(11, 0), 3);
        CHECK.due("the twelfth: force", Check.country(twelve).wind(11, 1), 2);
        badCountry(TOO_MANY_CLAUSES, twelve + ";^wind 0 0");
        badCountry(TOO_MANY_CLAUSES, twelve + ";gate 0;  ^wind");
        CHECK.due("one wind", Check.country("country 2;wind 3 3").count(1), 1);
        GossamerGate calm = Check.country("country 2");
        CHECK.due("without any: one hour comes round", calm.count(1), 1);
        CHECK.due("without any: way", calm.wind(0, 0), 0);
        CHECK.due("without any: force", calm.wind(0, 1), 0);
        GossamerGate again = Check.country("country 2" + Check.times(12, ";wind 3 3"));
        Check.put(again, "country 2;person 3 9 1;gate 3").country();
        CHECK.due("without any, once there were: way", again.wind(0, 0), 0);
        CHECK.due("without any, once there were: force", again.wind(0, 1), 0);
        again.force(Check.put(again, "go 1 if way = 0 and force = 0 and next = 0").rule());
        CHECK.due("without any, once there were: words", again.hour(), 1);
        CHECK.due("without any, once there were: no drift", again.person(0, 0), 3);
    }

    private static void people() {
        GossamerGate g = Check.country("country 2;person 3 0 1;person 3 60 9");
        CHECK.due("thread 0", g.person(0, 1), 0);
        CHECK.due("heavy 1", g.person(0, 2), 1);
        CHECK.due("thread 60", g.person(1, 1), 60);
        CHECK.due("heavy 9", g.person(1, 2), 9);
        CHECK.due("several in one cell", g.person(0, 0) + g.person(1, 0), 6);
        badCountry(BAD_NUMBER, "country 2;person 0 ^61 1");
        badCountry(BAD_NUMBER, "country 2;person 0 0 ^0");
        badCountry(BAD_NUMBER, "country 2;person 0 0 ^10");
        badCountry(BAD_NUMBER, "country 2;person ^000000 0 1");
        badCountry(BAD_NUMBER, "country 2;person 0 ^000000 1");
        badCountry(BAD_NUMBER, "country 2;person 0 0 ^000001");
        badCountry(CANNOT_STAND, "country 2;person^");
        badCountry(CANNOT_STAND, "country 2;person 0^");
        badCountry(CANNOT_STAND, "country 2;person 0 0^");
        badCountry(CANNOT_STAND, "country 2;person 0 0^;gate 0");
        badCountry(CANNOT_STAND, "country 2;person 0 0 1 ^1");
        String six = "country 3";
        for (int p = 0; p < 6; p++) {
            country(six, p);
            six += ";person " + p + " " + (10 + p) + " " + (1 + p);
        }
        country(six, 6);
        GossamerGate all = Check.country(six);
        for (int p = 0; p < 6; p++) {
            CHECK.due("in the order told: cell", all.person(p, 0), p);
            CHECK.due("in the order told: thread", all.person(p, 1), 10 + p);
            CHECK.due("in the order told: heavy", all.person(p, 2), 1 + p);
            CHECK.due("on land", all.person(p, 3), 0);
            CHECK.due("not tangled", all.person(p, 4), 0);
        }
        badCountry(TOO_MANY_CLAUSES, six + ";^person 0 0 1");
        badCountry(TOO_MANY_CLAUSES, six + " ; ^person");
    }

    private static void gates() {
        CHECK.due("told already", Check.country("country 2;gate 3;gate 3;gate 3").count(10), 1);
        CHECK.due("told already: it is there", Check.country("country 2;gate 3;gate 3").gateIn(3), 1);
        CHECK.due("all cells", Check.country("country 2;gate 3;gate 2;gate 1;gate 0").count(10), 4);
        badCountry(BAD_NUMBER, "country 2;gate ^000000");
        badCountry(CANNOT_STAND, "country 2;gate^");
        badCountry(CANNOT_STAND, "country 2;gate ^gate");
        badCountry(CANNOT_STAND, "country 2;gate 0 ^0");
    }

    private static void firstClause() {
        badCountry(TOO_MANY_CLAUSES, "^wind 0 0;country 2");
        badCountry(TOO_MANY_CLAUSES, "  ^person 0 0 1;country 2");
        badCountry(TOO_MANY_CLAUSES, "^gate 0;country 2");
        badCountry(TOO_MANY_CLAUSES, "^gate");
        badCountry(TOO_MANY_CLAUSES, "country 2;^country 2");
        badCountry(TOO_MANY_CLAUSES, "country 2;gate 0;^country");
        badCountry(CANNOT_STAND, "^;country 2");
        badCountry(CANNOT_STAND, "^2");
    }

    private static void clauses() {
        String most = "country 7" + Check.times(12, ";wind 1 3") + Check.times(6, ";person 48 60 9") + Check.times(21, ";gate 48");
        country(most, 6);
        badCountry(TOO_MANY_CLAUSES, most + ";^gate 0");
        String forty = "country 2" + Check.times(39, ";gate 0");
        country(forty, 0);
        badCountry(TOO_MANY_CLAUSES, forty + " ;  ^gate 0");
        badCountry(TOO_MANY_CLAUSES, forty + ";^wind 0 0");
        badCountry(TOO_MANY_CLAUSES, forty + ";^country 2");
        badCountry(TOO_MANY_CLAUSES, forty + ";^person");
        badCountry(CANNOT_STAND, forty + ";^");
        badCountry(CANNOT_STAND, forty + " ^gate 0");
        country("country 2" + Check.times(38, ";gate 0"), 0);
    }

    /** A byte or word that can't stand there, of all bytes. */
    private static void countryBytes() {
        for (int sign = 0; sign < 256; sign++) {
            boolean isDigit = sign >= '0' && sign <= '9';
            int behind = sign == ' ' ? 0 : Check.fault(sign == ';' ? 10 : isDigit ? 8 : 9, isDigit ? BAD_NUMBER : CANNOT_STAND);
            country("country 2" + (char) sign, behind);
            country((char) sign + "country 2", sign == ' ' ? 0 : Check.fault(0, CANNOT_STAND));
            boolean isNumber = sign >= '2' && sign <= '7';
            int number = Check.fault(sign == ' ' ? 9 : 8, isDigit ? BAD_NUMBER : CANNOT_STAND);
            country("country " + (char) sign, isNumber ? 0 : number);
        }
    }

    private static void blanks() {
        country("country2;wind0 0;gate3;person3 60 9", 1);
        country("  country  2  ;  wind  0  0  ;  gate  3  ;  person  3  60  9  ", 1);
        badCountry(CANNOT_STAND, "^coun try 2");
        badCountry(BAD_NUMBER, "country 3;gate ^88");
        country("country 3;gate 8 ", 0);
        badCountry(CANNOT_STAND, "country 3;person 8 11^");
        badCountry(CANNOT_STAND, "country 3;^windy 0 0");
        badCountry(CANNOT_STAND, "country 3;^win 0 0");
        badCountry(CANNOT_STAND, "country 3;^people 0 0 1");
        badCountry(CANNOT_STAND, "country 3;^gates 0");
        for (char sign = 'a'; sign <= 'z'; sign++) {
            badCountry(CANNOT_STAND, "^country" + sign + " 2");
            badCountry(CANNOT_STAND, "^" + sign + "country 2");
            badRule(CANNOT_STAND, "^go" + sign + " 1");
            badRule(CANNOT_STAND, "go ^hour" + sign);
        }
        for (char sign = '0'; sign <= '9'; sign++) {
            badRule(CANNOT_STAND, "go hour^" + sign);
            badRule(CANNOT_STAND, "^" + sign + "go 1");
            rule("go1" + sign, 0);
            badRule(BAD_NUMBER, "go ^12345" + sign);
        }
        badRule(CANNOT_STAND, "go1+2^ifrow=1");
        badRule(CANNOT_STAND, "go 1 if row = 1^androw = 1");
        rule("go1+2if1=1and2=2", 0);
        rule("  go  1  +  2  if  [  row  <=  1  ]  ", 0);
        badRule(CANNOT_STAND, "go 1 if row < ^= 1");
    }

    /** The first fault along the text. */
    private static void firstFault() {
        badCountry(BAD_NUMBER, "country ^9;x;;gate 99");
        badCountry(CANNOT_STAND, "country 2;^x;gate 99");
        badCountry(BAD_NUMBER, "country 2;gate ^99;x");
        badCountry(BAD_NUMBER, "country 2;person ^9 99 99");
        badCountry(BAD_NUMBER, "country 2;person 0 ^99 99");
        badCountry(BAD_NUMBER, "country 2;wind ^9;country 2");
        badCountry(TOO_MANY_CLAUSES, "country 2;^country 9;x");
        badRule(BAD_NUMBER, "go ^123456 +; x");
        badRule(CANNOT_STAND, "go 1 if 1 ^; go 123456");
        badRule(CANNOT_STAND, "go 1 ^1;" + Check.times(14, "go 1;"));
    }

    // ---- promise 5

    private static void ruleAnswers() {
        GossamerGate g = lively();
        Check.put(g, "go 1 if");
        CHECK.due("a fault", g.rule(), Check.fault(7, CANNOT_STAND));
        CHECK.due("a fault: the tape is empty", g.count(14), 0);
        CHECK.due("a fault: no rule", g.count(3), 1);
        CHECK.due("a fault: what is in force", g.count(4), 0);
        CHECK.due("a fault: acts stay", g.count(12), 2);
        CHECK.due("a fault: no such rule", g.force(1), -2);
        CHECK.due("the next rule", Check.put(g, "go 0").rule(), 1);
        CHECK.due("the next rule: the tape is empty", g.count(14), 0);
        CHECK.due("the next rule isn't in force", g.count(4), 0);
        CHECK.due("the next rule: acts stay", g.count(12), 2);
        GossamerGate one = Check.ruled("country 2;person 0 9 1;gate 0", "go 0");
        Check.put(one, "go 1;go").rule();
        CHECK.due("a fault leaves the rules as they were", one.hour(), 0);
    }

    private static GossamerGate withSix() {
        GossamerGate g = lively();
        for (int i = 1; i < 6; i++) {
            Check.put(g, "go " + i).rule();
        }
        return g;
    }

    private static void sixRules() {
        CHECK.due("six", withSix().count(3), 6);
        CHECK.stays("a seventh", () -> Check.put(withSix(), "go 1"), g -> g.rule(), -1);
        CHECK.stays("a seventh with a fault", () -> Check.put(withSix(), "go"), g -> g.rule(), -1);
        CHECK.stays("a seventh of nothing", TextEdgeTest::withSix, g -> g.rule(), -1);
        GossamerGate g = new GossamerGate();
        for (int i = 0; i < 6; i++) {
            CHECK.due("its number", Check.put(g, "go 1").rule(), i);
        }
    }

    /** Each text has its own 60 values, 12 clauses and 10 deep, whatever was told, or had a fault, ahead of it. */
    private static void fullRules() {
        GossamerGate g = Check.country("country 2;person 0 9 1;gate 0");
        String sum = Check.times(59, "+hour");
        for (int i = 0; i < 6; i++) {
            CHECK.due("61 values", Check.put(g, "go 1" + sum + "+1").rule(), Check.fault(4 + sum.length() + 1, TOO_MANY_VALUES));
            if (i % 2 == 0) {
                CHECK.due("60 values", Check.put(g, "go 0*1" + Check.times(58, "*2")).rule(), i);
            } else {
                CHECK.due("12 clauses", Check.put(g, "go 1 if 1=1" + Check.times(11, ";go 0 if 1=2")).rule(), i);
            }
        }
        for (int i = 0; i < 6; i++) {
            g.force(i);
            CHECK.due("rule " + i, g.hour(), i % 2);
            g.undo();
        }
        GossamerGate shorter = Check.country("country 2;person 0 9 1;gate 0");
        Check.put(shorter, "go 0 if 1 = 2; go 1").rule();
        shorter.force(Check.put(shorter, "go 0 if 1 = 2").rule());
        CHECK.due("no clause of another rule", shorter.hour(), 0);
    }

    private static void ruleClauses() {
        String twelve = "go 0 if 1 = 2" + Check.times(10, ";go 0 if 1 = 2") + ";go 1";
        rule(twelve, 0);
        lets(twelve, true);
        lets("go 1 if 1 = 2" + Check.times(11, ";go 1 if 1 = 2"), false);
        badRule(TOO_MANY_CLAUSES, twelve + ";^go 1");
        badRule(TOO_MANY_CLAUSES, twelve + " ;  ^go");
        badRule(CANNOT_STAND, twelve + ";^");
        badRule(CANNOT_STAND, twelve + ";^if");
        badRule(CANNOT_STAND, twelve + ";^;");
    }

    private static void ruleGrammar() {
        badRule(CANNOT_STAND, "^");
        badRule(CANNOT_STAND, "^;go 1");
        badRule(CANNOT_STAND, "^country 2");
        badRule(CANNOT_STAND, "^goes 1");
        badRule(CANNOT_STAND, "^g 1");
        badRule(CANNOT_STAND, "go^");
        badRule(CANNOT_STAND, "go ^;");
        badRule(CANNOT_STAND, "go ^if 1 = 1");
        badRule(CANNOT_STAND, "go 1 +^");
        badRule(CANNOT_STAND, "go 1 + ^+ 1");
        badRule(CANNOT_STAND, "go 1 * ^- 1");
        badRule(CANNOT_STAND, "go ^[1]");
        badRule(CANNOT_STAND, "go ^not 1");
        badRule(CANNOT_STAND, "go 1 ^= 1");
        badRule(CANNOT_STAND, "go 1 ^and 1 = 1");
        badRule(CANNOT_STAND, "go 1 if^");
        badRule(CANNOT_STAND, "go 1 if ^;");
        badRule(CANNOT_STAND, "go 1 if 1^");
        badRule(CANNOT_STAND, "go 1 if 1 +^");
        badRule(CANNOT_STAND, "go 1 if 1 <^");
        badRule(CANNOT_STAND, "go 1 if 1 < ^[1 = 1]");
        badRule(CANNOT_STAND, "go 1 if 1 < ^not 1");
        badRule(CANNOT_STAND, "go 1 if 1 = 1 ^= 1");
        badRule(CANNOT_STAND, "go 1 if 1 ^and 1 = 1");
        badRule(CANNOT_STAND, "go 1 if 1 = 1 and^");
        badRule(CANNOT_STAND, "go 1 if 1 = 1 and ^or 1 = 1");
        badRule(CANNOT_STAND, "go 1 if 1 = 1 or^");
        badRule(CANNOT_STAND, "go 1 if 1 = 1 ^not 1 = 1");
        badRule(CANNOT_STAND, "go 1 if not^");
        badRule(CANNOT_STAND, "go 1 if not ^and");
        badRule(CANNOT_STAND, "go 1 if [^");
        badRule(CANNOT_STAND, "go 1 if [^]");
        badRule(CANNOT_STAND, "go 1 if [1 = 1^");
        badRule(CANNOT_STAND, "go 1 if [1 = 1^;go 1");
        badRule(CANNOT_STAND, "go 1 if [1 = 1]^]");
        badRule(CANNOT_STAND, "go 1 if [1 = 1] ^[1 = 1]");
        badRule(CANNOT_STAND, "go 1 if [1 ^] = 1");
        badRule(CANNOT_STAND, "go 1 if [1 = 1] ^= 1");
        badRule(CANNOT_STAND, "go 1 if 1 = 1 ^if 1 = 1");
        badRule(CANNOT_STAND, "go 1 if 1 = 1 ^go 1");
        badRule(CANNOT_STAND, "go 1 ^go 1");
        badRule(CANNOT_STAND, "go 1;^");
        badRule(CANNOT_STAND, "go 1 if 1 >^> 1");
        badRule(CANNOT_STAND, "go 1 if 1 <^> 1");
        badRule(CANNOT_STAND, "go 1 if 1 =^= 1");
        badRule(CANNOT_STAND, "go 1 if 1 =^< 1");
        badRule(CANNOT_STAND, "go 1 if 1 <=^= 1");
    }

    private static void ruleNumbers() {
        rule("go 0", 0);
        rule("go 99999", 0);
        rule("go 00000", 0);
        badRule(BAD_NUMBER, "go ^100000");
        badRule(BAD_NUMBER, "go ^000000");
        badRule(BAD_NUMBER, "go 1 + ^123456");
        badRule(BAD_NUMBER, "go 1 if ^123456 = 1");
        badRule(BAD_NUMBER, "go 1 if 1 = ^99999999999999999999");
        badRule(CANNOT_STAND, "go 12345 ^6");
        lets("go 1 if 99999 = 100*1000-1", true);
        lets("go 1 if 00012 = 12", true);
    }

    private static void ruleWords() {
        for (String word : "person row column thread heavy way force next air here tangled hour".split(" ")) {
            rule("go " + word, 0);
            badRule(CANNOT_STAND, "go ^" + word + "s");
            badRule(CANNOT_STAND, "go ^" + word.substring(0, word.length() - 1));
            badRule(CANNOT_STAND, "go ^" + word.toUpperCase());
            badRule(CANNOT_STAND, "go 1^" + word);
        }
        badRule(CANNOT_STAND, "go ^go");
        badRule(CANNOT_STAND, "go ^or");
        badRule(CANNOT_STAND, "go ^gate");
        badRule(CANNOT_STAND, "go ^cell");
        badRule(CANNOT_STAND, "go ^roware");
        rule("go row if row=row", 0);
        badRule(CANNOT_STAND, "go ^rowif row = row");
    }

    private static void ruleBytes() {
        for (int sign = 0; sign < 256; sign++) {
            boolean isDigit = sign >= '0' && sign <= '9';
            boolean joins = "+-*/%;".indexOf(sign) >= 0;
            boolean fine = isDigit || sign == ' ';
            rule("go 1" + (char) sign, fine ? 0 : Check.fault(joins ? 5 : 4, CANNOT_STAND));
            boolean compares = "<=>".indexOf(sign) >= 0;
            boolean ends = isDigit || joins && sign != ';';
            int fact = Check.fault(ends ? 11 : sign == ' ' ? 10 : 9, CANNOT_STAND);
            rule("go 1 if 1" + (char) sign + "1", compares ? 0 : fact);
            rule("go " + (char) sign, isDigit ? 0 : Check.fault(sign == ' ' ? 4 : 3, CANNOT_STAND));
        }
    }

    /** [ and not lie within one another 10 deep at most. */
    private static void depth() {
        String ten = Check.times(10, "[");
        rule("go 1 if " + ten + "1=1" + Check.times(10, "]"), 0);
        badRule(TOO_DEEP, "go 1 if " + ten + "^[1=1" + Check.times(11, "]"));
        badRule(TOO_DEEP, "go 1 if " + ten + "^not 1=1" + Check.times(10, "]"));
        badRule(TOO_DEEP, "go 1 if " + ten + "1=1 or ^not 1=1" + Check.times(10, "]"));
        badRule(TOO_DEEP, "go 1 if " + ten + "1=1 and 2=2 and ^[1=1]" + Check.times(10, "]"));
        badRule(TOO_DEEP, "go 1 if " + ten + "^[");
        String nots = Check.times(10, "not ");
        rule("go 1 if " + nots + "1=1", 0);
        badRule(TOO_DEEP, "go 1 if " + nots + " ^not 1=1");
        badRule(TOO_DEEP, "go 1 if " + nots + "^[1=1]");
        rule("go 1 if " + nots + "1=1 and " + nots + "1=1 or " + ten + "1=1" + Check.times(10, "]"), 0);
        rule("go 1 if " + Check.times(5, "[not ") + "1=1" + Check.times(5, "]") + ";go 1 if " + nots + "1=1", 0);
        badRule(TOO_DEEP, "go 1 if " + Check.times(5, "[not ") + "^[1=1]" + Check.times(5, "]"));
        badRule(TOO_DEEP, "go 1 if not " + Check.times(9, "[") + "^not 1=1");
        rule("go 1 if [" + Check.times(9, "not ") + "1=1 and " + Check.times(9, "not ") + "1=1]", 0);
        lets("go 1 if " + nots + "1=1", true);
        lets("go 1 if " + Check.times(9, "not ") + "1=1", false);
        lets("go 1 if " + Check.times(9, "[") + "not 1=2" + Check.times(9, "]"), true);
    }

    /** At most 60 values and facts made of a sign, together. */
    private static void values() {
        String sixty = "go 1" + Check.times(59, "+1");
        rule(sixty, 0);
        lets(sixty, true);
        lets("go 59" + Check.times(59, "-1"), false);
        lets("go 60" + Check.times(59, "-1"), true);
        badRule(TOO_MANY_VALUES, sixty + "+ ^1");
        badRule(TOO_MANY_VALUES, sixty + "*^thread");
        badRule(TOO_MANY_VALUES, sixty + ";go ^1");
        badRule(TOO_MANY_VALUES, sixty + " if ^1=1");
        badRule(TOO_MANY_VALUES, sixty + " if [not ^hour=1]");
        String facts = " if 1=1" + Check.times(18, "or 1=1");
        rule("go 1+1+1" + facts, 0);
        badRule(TOO_MANY_VALUES, "go 1+1+1+1" + facts.substring(0, facts.length() - 1) + "^1");
        badRule(TOO_MANY_VALUES, "go 1+1+1+1+1" + facts.substring(0, facts.length() - 2) + "^=1");
        badRule(TOO_MANY_VALUES, "go 1+1+1+1+1+1" + facts.substring(0, facts.length() - 3) + "^1=1");
        badRule(TOO_MANY_VALUES, "go 1+1+1+1+1" + facts.substring(0, facts.length() - 2) + " ^>= 1");
        badRule(TOO_MANY_VALUES, "go 1+1+1" + facts + " or ^row=1");
        rule(Check.times(11, "go 1 if 1=1;") + "go 1" + Check.times(15, "+1"), 0);
        badRule(TOO_MANY_VALUES, Check.times(11, "go 1 if 1=1;") + "go 1" + Check.times(15, "+1") + "+^1");
    }

    private static void leastOfOnePlace() {
        String sixty = "go 1" + Check.times(59, "+1");
        badRule(BAD_NUMBER, sixty + "+^123456");
        badRule(CANNOT_STAND, sixty + "+^x");
        badRule(CANNOT_STAND, sixty + "+^");
        badRule(CANNOT_STAND, sixty + " ^= 1");
        badRule(CANNOT_STAND, "go 1 if 1" + Check.times(58, "+1") + " ^;");
        badRule(CANNOT_STAND, "go 1 ^123456");
        badCountry(CANNOT_STAND, "country 2 ^123456");
        badRule(TOO_DEEP, sixty.substring(0, sixty.length() - 2) + " if " + Check.times(10, "[") + "^[1=1");
        String twelve = "go 1" + Check.times(11, "+1+1+1+1;go 1") + "+1+1+1+1";
        rule(twelve, 0);
        badRule(TOO_MANY_CLAUSES, twelve + ";^go 1");
        badCountry(CANNOT_STAND, "country 2" + Check.times(39, ";gate 1") + ";^123456");
    }

    // ---- what sums and tests come to

    private static void sumsAndTests() {
        lets("go 1", true);
        lets("go 0", false);
        lets("go 0 - 1", false);
        lets("go 1 if 1 = 2", false);
        lets("go 1 if 1 = 2; go 0; go 1", false);
        lets("go 1 if 1 = 2; go 1; go 0", true);
        lets("go 0 if 1 = 1; go 1 if 1 = 1; go 1", false);
        lets("go 1 if 1 = 2; go 1 if 2 = 3", false);
        lets("go 7 / 2 * 2 - 5", true);
        lets("go 7 / 2 * 2 - 6", false);
        lets("go 7 % 4 * 2 - 6", false);
        lets("go 2 * 7 % 4 - 1", true);
        lets("go 10 - 2 - 3 - 5", false);
        lets("go 10 - 2 * 3 - 3", true);
        lets("go 1 / 2", false);
        lets("go 2 / 2", true);
        lets("go 5 / 0", false);
        lets("go 5 % 0", false);
        lets("go 5 / air", false);
        lets("go 5 % tangled + 1", true);
        lets("go 0 / 5", false);
        lets("go 1 if 4 < 5 and 5 <= 5 and 5 = 5 and 5 >= 5 and 6 > 5", true);
        lets("go 1 if 5 < 5", false);
        lets("go 1 if 6 <= 5", false);
        lets("go 1 if 6 = 5", false);
        lets("go 1 if 4 >= 5", false);
        lets("go 1 if 5 > 5", false);
        lets("go 1 if 0 - 1 < 0", true);
        lets("go 1 if 1 = 2 and 1 = 1 or 1 = 1", true);
        lets("go 1 if 1 = 2 and [1 = 1 or 1 = 1]", false);
        lets("go 1 if 1 = 1 or 1 = 2 and 1 = 2", true);
        lets("go 1 if 1 = 2 or 1 = 2 or 1 = 1", true);
        lets("go 1 if 1 = 1 or 1 = 2 or 1 = 2", true);
        lets("go 1 if 1 = 2 or 1 = 1 or 1 = 2", true);
        lets("go 1 if 1 = 2 or 1 = 2 or 1 = 2", false);
        lets("go 1 if 1 = 1 and 1 = 2 and 1 = 1", false);
        lets("go 1 if 1 = 2 and 1 = 1 and 1 = 1", false);
        lets("go 1 if 1 = 1 and 1 = 1 and 1 = 1", true);
        lets("go 1 if not 1 = 2 and 1 = 1", true);
        lets("go 1 if 1 = 1 and not 1 = 2", true);
        lets("go 1 if not 1 = 2 and not 1 = 2", true);
        lets("go 1 if not 1 = 1 or not 1 = 1", false);
        lets("go 1 if not 1 = 2 and 1 = 2", false);
        lets("go 1 if not [1 = 2 and 1 = 2]", true);
        lets("go 1 if [[1 = 2] or [not 1 = 2]]", true);
        lets("go 1 if person = 1 and row = 1 and column = 2 and thread = 7 and heavy = 2", true);
        lets("go 1 if way = 1 and force = 0 and next = 3 and air = 0 and here = 1 and tangled = 0 and hour = 0", true);
    }

    /** All goes round in 64 bits; / is towards 0, % its rest. */
    private static void goesRound() {
        String least = "32768*32768*32768*32768*8";
        lets("go " + least, false);
        lets("go " + least + " - 1", true);
        lets("go " + least + " + " + least, false);
        lets("go " + least + " + " + least + " + 1", true);
        lets("go " + least + " * 2", false);
        lets("go " + least + " * 3 - 1", true);
        lets("go 32768*32768*32768*32768*4", true);
        lets("go 32768*32768*32768*32768*16 + 1", true);
        lets("go 1 if " + least + " < 0", true);
        lets("go 1 if " + least + " - 1 > 99999", true);
        lets("go 1 if " + least + " / 3 * 3 - " + least + " = 2", true);
        lets("go 1 if " + least + " % 3 = 0 - 2", true);
        lets("go 1 if " + least + " / 0 = 0 and " + least + " % 0 = 0", true);
        lets("go 1 if " + least + " = " + least, true);
    }

    // ---- promise 6

    private static void force() {
        Supplier<GossamerGate> two = () -> {
            GossamerGate g = lively();
            Check.put(g, "go 0").rule();
            return g;
        };
        CHECK.stays("force 2 of two", two, g -> g.force(2), -2);
        CHECK.stays("force -2", two, g -> g.force(-2), -2);
        CHECK.stays("force the least", two, g -> g.force(Integer.MIN_VALUE), -2);
        CHECK.stays("force the most", two, g -> g.force(Integer.MAX_VALUE), -2);
        CHECK.stays("force what is in force", two, g -> g.force(0), 0);
        GossamerGate g = two.get();
        CHECK.due("force 1", g.force(1), 0);
        CHECK.due("it is no act", g.count(12), 2);
        CHECK.due("force none", g.force(-1), 1);
        CHECK.due("none is in force", g.count(4), -1);
        CHECK.due("force 0", g.force(0), -1);
        CHECK.due("force 5 of six", withSix().force(5), 0);
        CHECK.due("force 6 of six", withSix().force(6), -2);
    }
}
