/** Promises 1 to 6: a new object, the tape, countries, rules, and which is in force. */
public final class TextTest {
    private static final Check CHECK = new Check();
    private static final String SMALL = "country 3;wind 1 1;wind 2 1;person 0 5 2;person 3 1 3;gate 0;gate 3";

    public static void main(String[] args) {
        newObject();
        tape();
        countries();
        countryFaults();
        countryLimits();
        countryStays();
        rules();
        ruleFaults();
        ruleLimits();
        ruleNumbers();
        force();
        CHECK.finish();
    }

    private static void newObject() {
        GossamerGate g = new GossamerGate();
        for (int what = 0; what <= 14; what++) {
            CHECK.due("new: count(" + what + ")", g.count(what), what == 4 ? -1 : 0);
        }
        CHECK.due("new: NONE", GossamerGate.NONE, -1);
        CHECK.due("new: person", g.person(0, 0), -2);
        CHECK.due("new: wind", g.wind(0, 0), -1);
        CHECK.due("new: gateIn", g.gateIn(0), -1);
        CHECK.due("new: hour", g.hour(), -1);
        CHECK.due("new: gate", g.gate(0), -1);
        CHECK.due("new: undo", g.undo(), -1);
        CHECK.due("new: tangle", g.tangle(0), -1);
        CHECK.due("new: flock", g.flock(1, 0), -1);
        CHECK.due("new: bestGate", g.bestGate(1, 0), -2);
        CHECK.due("new: bestWinds", g.bestWinds(1, 0), -2);
        CHECK.due("new: ring", g.ring(0), -1);
        CHECK.due("new: ruled", g.ruled(0), -3);
        CHECK.due("new: look", g.look(0, 0), -1);
        CHECK.due("new: gusts", g.gusts(1, 1, 0, 0), -1);
        CHECK.due("new: back", g.back(0), -1);
    }

    private static void tape() {
        GossamerGate g = new GossamerGate();
        for (int i = 1; i <= 20; i++) {
            CHECK.due("feed", g.feed(0, 0, 0, 0, 0), 20 * i);
        }
        CHECK.due("feed past 400", g.feed(0, 0, 0, 0, 0), -1);
        CHECK.due("end 401", g.end(401), -1);
        CHECK.due("end -1", g.end(-1), -1);
        CHECK.due("end 381", g.end(381), 381);
        CHECK.due("feed to 401", g.feed(0, 0, 0, 0, 0), -1);
        CHECK.due("tape stays", g.count(14), 381);
        CHECK.due("end 380", g.end(380), 380);
        CHECK.due("feed to 400", g.feed(0, 0, 0, 0, 0), 400);
        CHECK.due("end 0", g.end(0), 0);
        CHECK.due("end 1 of 0", g.end(1), -1);
        CHECK.due("feed country 3", g.feed(0x636f756e, 0x74727920, 0x33000000, 0, 0), 20);
        CHECK.due("end 9", g.end(9), 9);
        CHECK.due("highest first", g.country(), 0);
        CHECK.due("side", g.count(0), 3);
        CHECK.due("tape is empty", g.count(14), 0);
    }

    private static int tell(String text) {
        return Check.put(new GossamerGate(), text).country();
    }

    private static void country(String text, int want) {
        CHECK.due("country \"" + text + "\"", tell(text), want);
    }

    private static void countries() {
        country("country 2", 0);
        country("country 7", 0);
        country("country2", 0);
        country("  country   00003  ", 0);
        country("country 3 ; gate 8;gate 8;person8 60 9;person 0 0 1", 2);
        GossamerGate g = Check.country(SMALL + ";gate 0");
        CHECK.due("people", g.count(2), 2);
        CHECK.due("side", g.count(0), 3);
        CHECK.due("round", g.count(1), 2);
        CHECK.due("gates", g.count(10), 2);
        CHECK.due("hour", g.count(5), 0);
        CHECK.due("thread", g.count(8), 6);
        CHECK.due("way 1", g.wind(1, 0), 2);
        CHECK.due("force 1", g.wind(1, 1), 1);
        CHECK.due("cell", g.person(1, 0), 3);
        CHECK.due("thread 1", g.person(1, 1), 1);
        CHECK.due("heavy", g.person(1, 2), 3);
        GossamerGate calm = Check.country("country 2;person 3 4 2");
        CHECK.due("no wind: round", calm.count(1), 1);
        CHECK.due("no wind: way", calm.wind(0, 0), 0);
        CHECK.due("no wind: force", calm.wind(0, 1), 0);
        CHECK.due("no wind: the next", calm.wind(1, 0), -1);
    }

    private static void countryFaults() {
        country("", Check.fault(0, 0));
        country("   ", Check.fault(3, 0));
        country("country", Check.fault(7, 0));
        country("country  ", Check.fault(9, 0));
        country("country 1", Check.fault(8, 1));
        country("country 8", Check.fault(8, 1));
        country("country 000002", Check.fault(8, 1));
        country("country x", Check.fault(8, 0));
        country("countrys 2", Check.fault(0, 0));
        country("Country 2", Check.fault(0, 0));
        country("wind 0 0", Check.fault(0, 4));
        country("gate 99999999", Check.fault(0, 4));
        country("go 1", Check.fault(0, 0));
        country("country 2;country 2", Check.fault(10, 4));
        country("country 2; country 2", Check.fault(11, 4));
        country("country 2;", Check.fault(10, 0));
        country("country 2;;", Check.fault(10, 0));
        country("country 2 0", Check.fault(10, 0));
        country("country 2 gate 0", Check.fault(10, 0));
        country("country 2,", Check.fault(9, 0));
        country("country 2\u0000", Check.fault(9, 0));
        country("country 2;wind 4 0", Check.fault(15, 1));
        country("country 2;wind 0 4", Check.fault(17, 1));
        country("country 2;wind 00", Check.fault(17, 0));
        country("country 2;person 4 0 1", Check.fault(17, 1));
        country("country 2;person 0 61 1", Check.fault(19, 1));
        country("country 2;person 0 0 0", Check.fault(21, 1));
        country("country 2;person 0 0 10", Check.fault(21, 1));
        country("country 2;person 0 0", Check.fault(20, 0));
        country("country 2;gate 4", Check.fault(15, 1));
        country("country 2;gate -1", Check.fault(15, 0));
        country("country 2;gate 3;x;country 9", Check.fault(17, 0));
    }

    private static void countryLimits() {
        String winds = "country 2" + Check.times(12, ";wind 1 3");
        country(winds, 0);
        country(winds + "; wind 9 9", Check.fault(winds.length() + 2, 4));
        String people = "country 2" + Check.times(6, ";person 0 0 1");
        country(people, 6);
        country(people + ";person", Check.fault(people.length() + 1, 4));
        String forty = "country 2" + Check.times(39, ";gate 1");
        country(forty, 0);
        country(forty + ";gate 1", Check.fault(forty.length() + 1, 4));
        country(forty + ";fate 1", Check.fault(forty.length() + 1, 0));
        country(forty + ";", Check.fault(forty.length() + 1, 0));
        country(forty + ";7", Check.fault(forty.length() + 1, 0));
    }

    private static void countryStays() {
        GossamerGate g = Check.country(SMALL);
        Check.put(g, "go 1").rule();
        g.force(0);
        g.seed(77);
        g.hour();
        g.note(0, 0, 0);
        Check.put(g, "country 9");
        CHECK.due("fault", g.country(), Check.fault(8, 1));
        CHECK.due("fault: the tape stays", g.count(14), 9);
        CHECK.due("fault: hour stays", g.count(5), 1);
        CHECK.due("fault: notes stay", g.count(11), 1);
        CHECK.due("fault: acts stay", g.count(12), 1);
        CHECK.due("fault: cell stays", g.person(0, 0), 1);
        Check.put(g, "country 2;person 3 0 1");
        CHECK.due("another", g.country(), 1);
        CHECK.due("another: hour", g.count(5), 0);
        CHECK.due("another: notes", g.count(11), 0);
        CHECK.due("another: acts", g.count(12), 0);
        CHECK.due("another: rule in force", g.count(4), 0);
        CHECK.due("another: rules", g.count(3), 1);
        CHECK.due("another: x", g.count(13), 77);
        CHECK.due("another: winds", g.count(1), 1);
        CHECK.due("another: wind", g.wind(0, 0), 0);
        CHECK.due("another: gates", g.count(10), 0);
        CHECK.due("another: tape", g.count(14), 0);
    }

    private static int tellRule(String text) {
        return Check.put(new GossamerGate(), text).rule();
    }

    private static void rule(String text, int want) {
        CHECK.due("rule \"" + text + "\"", tellRule(text), want);
    }

    /** Whether a rule lets person 1 go: cell 5 of side 3, thread 7, heavy 2, hour 0, another one there. */
    private static void lets(String text, boolean want) {
        GossamerGate g = Check.country("country 3;wind 1 0;wind 2 3;person 5 0 9;person 5 7 2;person 0 9 9;gate 5");
        CHECK.due("rule \"" + text + "\"", Check.put(g, text).rule(), 0);
        g.force(0);
        CHECK.due("\"" + text + "\" lets go", g.hour(), want ? 2 : 0);
    }

    private static void rules() {
        lets("go 1", true);
        lets("go 0", false);
        lets("go 0 - 1", false);
        lets("go 2 - 1 - 1", false);
        lets("go 1 + 2 * 3 - 6", true);
        lets("go 1 + 2 * 3 - 7", false);
        lets("go 7 / 2 - 2", true);
        lets("go 7 / 2 - 3", false);
        lets("go 7 % 4 - 2", true);
        lets("go 7 % 4 - 3", false);
        lets("go 8 / 2 / 2 - 1", true);
        lets("go 8 / 2 / 2 - 2", false);
        lets("go 1 - 7 / 0", true);
        lets("go 7 / 0", false);
        lets("go 7 % 0", false);
        // 2 * 99999 to the 4th goes round to -2922184690805867774; by 99999 that is -29222139129449.
        lets("go 99999*99999*99999*99999*2", false);
        lets("go 1 if 99999*99999*99999*99999*2 < 0", true);
        lets("go 1 if 99999*99999*99999*99999*2%10 = 0-4", true);
        lets("go 1 if 99999*99999*99999*99999*2/99999%1000 = 0-449", true);
        lets("go 1 if person = 1 and row = 1 and column = 2 and thread = 7 and heavy = 2", true);
        lets("go 1 if way = 1 and force = 0 and next = 3 and air = 0 and here = 1 and tangled = 0 and hour = 0", true);
        lets("go 1 if 1 < 1", false);
        lets("go 1 if 1 <= 1", true);
        lets("go 1 if 1 > 1", false);
        lets("go 1 if 1 >= 1", true);
        lets("go 1 if 0 - 2 < 1", true);
        lets("go 1 if 1 = 2 or 1 = 1 and 2 = 2", true);
        lets("go 1 if 1 = 1 or 1 = 1 and 2 = 1", true);
        lets("go 1 if [1 = 1 or 1 = 1] and 2 = 1", false);
        lets("go 1 if not 1 = 1 or 1 = 1", true);
        lets("go 1 if not [1 = 1 or 1 = 1]", false);
        lets("go 1 if not not 1 = 1", true);
        lets("go 0 if 1 = 1; go 1", false);
        lets("go 0 if 1 = 2; go 1", true);
        lets("go 1 if 1 = 2", false);
        lets("go 0; go 1", false);
        lets("go1if1=1or2=2", true);
    }

    private static void ruleFaults() {
        rule("", Check.fault(0, 0));
        rule("go", Check.fault(2, 0));
        rule("gos 1", Check.fault(0, 0));
        rule("country 2", Check.fault(0, 0));
        rule("go x", Check.fault(3, 0));
        rule("go if", Check.fault(3, 0));
        rule("go 1 if", Check.fault(7, 0));
        rule("go 1;", Check.fault(5, 0));
        rule("go 1 go 1", Check.fault(5, 0));
        rule("go 5 %", Check.fault(6, 0));
        rule("go -1", Check.fault(3, 0));
        rule("go [1]", Check.fault(3, 0));
        rule("go 1 or 1 = 1", Check.fault(5, 0));
        rule("go 99999", 0);
        rule("go 000001", Check.fault(3, 1));
        rule("go 1 if 1", Check.fault(9, 0));
        rule("go 1 if 1 = ", Check.fault(12, 0));
        rule("go 1 if 1 = 1]", Check.fault(13, 0));
        rule("go 1 if here = 1]", Check.fault(16, 0));
        rule("go 1 if [1 = 1", Check.fault(14, 0));
        rule("go 1 if [1 = 1;", Check.fault(14, 0));
        rule("go 1 if 1 < = 1", Check.fault(12, 0));
        rule("go 1 if 1 => 1", Check.fault(11, 0));
        rule("go 1 if 1 = 1 = 1", Check.fault(14, 0));
        rule("go 1 if [1] = 1", Check.fault(10, 0));
        rule("go 1 if 1 = 1 and", Check.fault(17, 0));
        rule("go 1 if 1 = 1 if 1 = 1", Check.fault(14, 0));
        rule("go 1 if notnot 1 = 1", Check.fault(8, 0));
        rule("go 1 if 1 = 1 not 1 = 1", Check.fault(14, 0));
        rule("go thread\u0000", Check.fault(9, 0));
        rule("go thread\u00e9", Check.fault(9, 0));
        rule("go threads", Check.fault(3, 0));
    }

    private static void ruleLimits() {
        String twelve = "go 1" + Check.times(11, ";go 1");
        rule(twelve, 0);
        rule(twelve + "; go 1", Check.fault(twelve.length() + 2, 4));
        rule(twelve + ";to 1", Check.fault(twelve.length() + 1, 0));
        rule(twelve + ";", Check.fault(twelve.length() + 1, 0));
        rule("go 1 if " + Check.times(10, "[") + "1=1" + Check.times(10, "]"), 0);
        rule("go 1 if " + Check.times(11, "[") + "1=1" + Check.times(11, "]"), Check.fault(18, 2));
        rule("go 1 if " + Check.times(10, "not ") + "1=1", 0);
        rule("go 1 if " + Check.times(11, "not ") + "1=1", Check.fault(48, 2));
        rule("go 1 if " + Check.times(5, "not [") + "1=1" + Check.times(5, "]"), 0);
        rule("go 1 if " + Check.times(5, "not [") + "1=1 or not 1=1", Check.fault(40, 2));
        rule("go 1 if " + Check.times(10, "not ") + "1=1 and " + Check.times(10, "not ") + "1=1", 0);
        String sixty = "go 1" + Check.times(59, "+1");
        rule(sixty, 0);
        rule(sixty + "+1", Check.fault(sixty.length() + 1, 3));
        rule(sixty + "+123456", Check.fault(sixty.length() + 1, 1));
        rule(sixty + "+x", Check.fault(sixty.length() + 1, 0));
        rule(sixty + "+", Check.fault(sixty.length() + 1, 0));
        rule(sixty + ";go 1", Check.fault(sixty.length() + 4, 3));
        String fiftyNine = "go 1 if 1" + Check.times(58, "+1");
        rule(fiftyNine + "=1", Check.fault(fiftyNine.length(), 3));
        String fiftyEight = "go 1 if 1" + Check.times(57, "+1");
        rule(fiftyEight + " = 1", Check.fault(fiftyEight.length() + 3, 3));
        String fiftySeven = "go 1 if 1" + Check.times(56, "+1");
        rule(fiftySeven + " = 1", 0);
    }

    private static void ruleNumbers() {
        GossamerGate g = new GossamerGate();
        for (int i = 0; i < 6; i++) {
            CHECK.due("rule " + i, Check.put(g, "go " + i).rule(), i);
            CHECK.due("the tape is empty", g.count(14), 0);
            if (i < 5) {
                Check.put(g, "go");
                CHECK.due("no rule", g.rule(), Check.fault(2, 0));
                CHECK.due("a fault: the tape is empty, too", g.count(14), 0);
                CHECK.due("an empty tape is no rule", g.rule(), Check.fault(0, 0));
                CHECK.due("how many", g.count(3), i + 1);
            }
        }
        CHECK.due("seventh rule", Check.put(g, "go 1").rule(), -1);
        CHECK.due("seventh rule: the tape stays", g.count(14), 4);
        CHECK.due("seventh rule, faulty", Check.put(g, "go").rule(), -1);
        CHECK.due("seventh rule, faulty: the tape stays", g.count(14), 2);
        CHECK.due("rules", g.count(3), 6);
    }

    private static void force() {
        GossamerGate g = new GossamerGate();
        CHECK.due("force 0 of none", g.force(0), -2);
        CHECK.due("force none", g.force(-1), -1);
        Check.put(g, "go 1").rule();
        Check.put(g, "go 0").rule();
        CHECK.due("force 1", g.force(1), -1);
        CHECK.due("force 2", g.force(2), -2);
        CHECK.due("force -2", g.force(-2), -2);
        CHECK.due("in force", g.count(4), 1);
        CHECK.due("force 0", g.force(0), 1);
        CHECK.due("force none again", g.force(-1), 0);
        CHECK.due("none in force", g.count(4), -1);
    }
}
