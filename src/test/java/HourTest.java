/** Promises 7 to 15 and 34 to 36: how it is, hours and the other acts, undoing, counts, images. */
public final class HourTest {
    private static final Check CHECK = new Check();
    private static final String SMALL = "country 3;wind 1 1;wind 2 1;person 0 5 2;person 3 1 3;gate 0;gate 3";

    public static void main(String[] args) {
        looks();
        hours();
        ways();
        seas();
        tangles();
        toldInTheAir();
        beginOfTheHour();
        tellAndSave();
        carry();
        gates();
        undo();
        counts();
        images();
        CHECK.finish();
    }

    private static void state(String where, GossamerGate g, int person, int... want) {
        for (int what = 0; what < want.length; what++) {
            CHECK.due(where + ": person(" + person + ", " + what + ")", g.person(person, what), want[what]);
        }
    }

    private static void looks() {
        GossamerGate g = Check.country(SMALL);
        state("new", g, 0, 0, 5, 2, 0, 0);
        state("new", g, 1, 3, 1, 3, 0, 0);
        CHECK.due("person 2", g.person(2, 0), -2);
        CHECK.due("person -1", g.person(-1, 0), -2);
        CHECK.due("what 5", g.person(0, 5), -2);
        CHECK.due("what -1", g.person(0, -1), -2);
        CHECK.due("wind 2", g.wind(2, 0), -1);
        CHECK.due("wind -1", g.wind(-1, 0), -1);
        CHECK.due("wind what 2", g.wind(0, 2), -1);
        CHECK.due("wind 0", g.wind(0, 0), 1);
        CHECK.due("gate 0", g.gateIn(0), 1);
        CHECK.due("gate 1", g.gateIn(1), 0);
        CHECK.due("gate 8", g.gateIn(8), 0);
        CHECK.due("gate 9", g.gateIn(9), -1);
        CHECK.due("gate -1", g.gateIn(-1), -1);
    }

    private static void hours() {
        GossamerGate g = Check.country(SMALL);
        CHECK.due("hour 0", g.hour(), 1);
        state("hour 0", g, 0, 1, 3, 2, 1, 0);
        state("hour 0", g, 1, 3, 2, 3, 0, 0);
        CHECK.due("air", g.count(6), 1);
        CHECK.due("hour 1", g.hour(), 0);
        state("hour 1", g, 0, 4, 1, 2, 0, 0);
        state("hour 1", g, 1, 3, 3, 3, 0, 0);
        CHECK.due("hour 2", g.hour(), 2);
        state("hour 2", g, 0, 4, 2, 2, 0, 0);
        state("hour 2", g, 1, 4, 0, 3, 0, 0);
        CHECK.due("hour is 3", g.count(5), 3);
        GossamerGate full = Check.country("country 2;person 0 60 9");
        full.hour();
        CHECK.due("60 at most", full.person(0, 1), 60);
        for (int i = 1; i < 999; i++) {
            full.hour();
        }
        CHECK.due("hour 999", full.count(5), 999);
        CHECK.due("no hour by hand in 999", full.hour(), -1);
        CHECK.due("hour 999 stays", full.count(5), 999);
        full.gate(0);
        CHECK.due("hours asked go on beyond", full.down(0, 0), -3);
        CHECK.due("one goes in hour 999", full.goes(0), 999);
        CHECK.due("ahead", full.ahead(0, 1, 1), 51);
    }

    private static void ways() {
        int[] want = {5, 13, 19, 11};
        for (int way = 0; way < 4; way++) {
            GossamerGate g = Check.country("country 7;wind " + way + " 1;person 12 1 1;gate 12");
            CHECK.due("way " + way, g.hour(), 1);
            CHECK.due("cell by way " + way, g.person(0, 0), want[way]);
        }
        GossamerGate three = Check.country("country 7;wind 3 3;person 10 1 1;gate 10");
        three.hour();
        CHECK.due("three cells ahead", three.person(0, 0), 7);
    }

    private static void seas() {
        GossamerGate g = Check.country("country 2;wind 1 1;person 1 5 1;person 3 5 1;gate 1");
        CHECK.due("into the sea", g.hour(), 1);
        state("sea", g, 0, -1, 0, 1, 2, 0);
        CHECK.due("sea bits", g.count(7), 1);
        CHECK.due("thread of all", g.count(8), 6);
        CHECK.due("tell in the sea", g.tell(0, 1), -1);
        CHECK.due("save in the sea", g.save(0, 1), -1);
        CHECK.due("carry in the sea", g.carry(0, 0), -1);
        g.hour();
        state("sea for good", g, 0, -1, 0, 1, 2, 0);
        // A row's end is the country's end: nobody drifts into the next row.
        GossamerGate row = Check.country("country 3;wind 1 1;person 2 9 1;gate 2");
        row.hour();
        CHECK.due("row's end", row.person(0, 3), 2);
    }

    private static void tangles() {
        GossamerGate g = Check.country("country 3;wind 1 1;person 0 5 3;person 0 9 3;person 1 0 9;gate 0");
        CHECK.due("both go", g.hour(), 3);
        state("tangled", g, 0, 1, 2, 3, 0, 1);
        state("tangled", g, 1, 1, 6, 3, 0, 1);
        state("on land there", g, 2, 1, 1, 9, 0, 0);
        CHECK.due("how often", g.count(9), 2);
        GossamerGate pass = Check.country("country 3;wind 1 1;person 0 9 3;person 1 9 3;gate 0;gate 1");
        CHECK.due("side by side", pass.hour(), 3);
        CHECK.due("none tangled", pass.count(9), 0);
        CHECK.due("both in the air", pass.count(6), 3);
    }

    private static void toldInTheAir() {
        GossamerGate g = Check.country("country 4;wind 1 1;person 0 9 3;gate 0");
        g.hour();
        CHECK.due("tell in the air", g.tell(0, 5), 1);
        CHECK.due("still in the air", g.person(0, 3), 1);
        CHECK.due("carry in the air", g.carry(0, 5), -1);
        g.hour();
        state("comes down", g, 0, 2, 0, 3, 0, 0);
        g.undo();
        CHECK.due("save in the air", g.save(0, 9), 10);
    }

    private static void beginOfTheHour() {
        GossamerGate g = Check.country("country 5;person 0 9 3;person 0 9 3;person 5 9 1;gate 0;gate 5");
        Check.put(g, "go 1 if here > 0 or air > 0").rule();
        g.force(0);
        CHECK.due("each by how all is", g.hour(), 3);
        CHECK.due("tangled in calm", g.count(9), 2);
        CHECK.due("nobody is in the air", g.hour(), 3);
        Check.put(g, "go tangled").rule();
        g.force(1);
        g.save(0, 9);
        g.save(1, 9);
        CHECK.due("those who tangled", g.hour(), 3);
    }

    private static void tellAndSave() {
        GossamerGate g = Check.country("country 2;person 0 9 1;person 0 3 1");
        CHECK.due("tell 9", g.tell(0, 9), 0);
        CHECK.due("tell 4 of 3", g.tell(1, 4), -1);
        CHECK.due("tell 3 of 3", g.tell(1, 3), 0);
        CHECK.due("tell 0", g.tell(0, 0), -1);
        CHECK.due("tell 10", g.tell(0, 10), -1);
        CHECK.due("tell -1", g.tell(0, -1), -1);
        CHECK.due("tell of nobody", g.tell(2, 1), -1);
        CHECK.due("acts", g.count(12), 2);
        CHECK.due("save 9", g.save(0, 9), 9);
        CHECK.due("save 0", g.save(0, 0), -1);
        CHECK.due("save 10", g.save(0, 10), -1);
        CHECK.due("save of nobody", g.save(-1, 1), -1);
        for (int i = 2; i <= 6; i++) {
            CHECK.due("save", g.save(0, 9), 9 * i);
        }
        CHECK.due("60 at most", g.save(0, 9), 60);
        CHECK.due("60 stays", g.save(0, 1), 60);
        CHECK.due("acts", g.count(12), 10);
    }

    private static void carry() {
        GossamerGate g = Check.country("country 2;person 1 9 1");
        CHECK.due("carry", g.carry(0, 3), 1);
        CHECK.due("cell", g.person(0, 0), 3);
        CHECK.due("carry to the same", g.carry(0, 3), -1);
        CHECK.due("carry to 4", g.carry(0, 4), -1);
        CHECK.due("carry to -1", g.carry(0, -1), -1);
        CHECK.due("carry nobody", g.carry(1, 0), -1);
        CHECK.due("acts", g.count(12), 1);
    }

    private static void gates() {
        GossamerGate g = Check.country("country 7;gate 48");
        CHECK.due("a gate", g.gate(47), 1);
        CHECK.due("how many", g.count(10), 2);
        CHECK.due("no gate", g.gate(48), 0);
        CHECK.due("gate 49", g.gate(49), -1);
        CHECK.due("gate -1", g.gate(-1), -1);
        CHECK.due("how many", g.count(10), 1);
        CHECK.due("acts", g.count(12), 2);
    }

    private static void undo() {
        GossamerGate g = Check.country(SMALL);
        CHECK.due("nothing to undo", g.undo(), -1);
        g.hour();
        g.tell(0, 2);
        g.save(1, 4);
        g.carry(1, 8);
        g.gate(0);
        g.force(-1);
        g.seed(5);
        CHECK.due("undo gate", g.undo(), 4);
        CHECK.due("gate is back", g.gateIn(0), 1);
        CHECK.due("undo carry", g.undo(), 3);
        CHECK.due("cell is back", g.person(1, 0), 3);
        CHECK.due("undo save", g.undo(), 2);
        CHECK.due("thread is back", g.person(1, 1), 2);
        CHECK.due("undo tell", g.undo(), 1);
        CHECK.due("thread is back", g.person(0, 1), 3);
        CHECK.due("undo hour", g.undo(), 0);
        state("hour undone", g, 0, 0, 5, 2, 0, 0);
        CHECK.due("hour is 0", g.count(5), 0);
        CHECK.due("x stays", g.count(13), 5);
        CHECK.due("nothing more", g.undo(), -1);
        for (int i = 0; i < 25; i++) {
            g.hour();
        }
        CHECK.due("20 at most", g.count(12), 20);
        for (int i = 19; i >= 0; i--) {
            CHECK.due("undo", g.undo(), i);
        }
        CHECK.due("nothing more", g.undo(), -1);
        CHECK.due("hour 5", g.count(5), 5);
    }

    private static void counts() {
        GossamerGate g = Check.country(SMALL);
        CHECK.due("count -1", g.count(-1), -1);
        CHECK.due("count 15", g.count(15), -1);
        g.feed(0, 0, 0, 0, 0);
        CHECK.due("bytes", g.count(14), 20);
    }

    private static void images() {
        GossamerGate g = new GossamerGate();
        CHECK.due("image without a country", g.image(3), 0);
        CHECK.due("image 4", g.image(4), -1);
        CHECK.due("image -1", g.image(-1), -1);
        CHECK.due("never made", g.back(0), -1);
        Check.put(g, SMALL).country();
        Check.put(g, "go 0").rule();
        g.hour();
        g.note(1, 0, 1);
        g.seed(9);
        CHECK.due("image 0", g.image(0), 1);
        Check.put(g, "go 1").rule();
        g.force(1);
        g.hour();
        g.gate(8);
        g.seed(10);
        Check.put(g, "country 2").country();
        g.feed(0, 0, 0, 0, 0);
        CHECK.due("back 0", g.back(0), 1);
        CHECK.due("side", g.count(0), 3);
        CHECK.due("gates", g.count(10), 2);
        CHECK.due("notes", g.count(11), 1);
        CHECK.due("x", g.count(13), 9);
        CHECK.due("in force", g.count(4), -1);
        CHECK.due("rules stay", g.count(3), 2);
        CHECK.due("the tape stays", g.count(14), 20);
        CHECK.due("nothing can be undone", g.undo(), -1);
        state("back", g, 0, 1, 3, 2, 1, 0);
        g.hour();
        CHECK.due("the image stays", g.back(0), 1);
        state("back again", g, 0, 1, 3, 2, 1, 0);
        CHECK.due("the rules' notes", g.ruled(0), 2);
        CHECK.due("back to no country", g.back(3), 0);
        CHECK.due("no side", g.count(0), 0);
        CHECK.due("back 4", g.back(4), -1);
        CHECK.due("back -1", g.back(-1), -1);
        CHECK.due("back 1, never made", g.back(1), -1);
    }
}
