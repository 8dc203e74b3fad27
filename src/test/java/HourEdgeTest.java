import java.util.function.Supplier;

/** Each boundary that the document names of hours, acts and images: promises 7 to 15 and 34 to 36, and Terms II. */
public final class HourEdgeTest {
    private static final Check CHECK = new Check();
    private static final int LEAST = Integer.MIN_VALUE;
    private static final int MOST = Integer.MAX_VALUE;

    public static void main(String[] args) {
        person();
        wind();
        gateIn();
        whoGoes();
        ruleSays();
        threadMore();
        threadLess();
        drift();
        seaForGood();
        tangles();
        comingDown();
        hoursComeRound();
        wordsOfTheHour();
        tell();
        save();
        carry();
        gate();
        undoTwenty();
        undoEach();
        whatIsNoAct();
        count();
        image();
        back();
        CHECK.finish();
    }

    private static void is(String where, GossamerGate g, int person, int... want) {
        for (int what = 0; what < want.length; what++) {
            CHECK.due(where + ": person(" + person + ", " + what + ")", g.person(person, what), want[what]);
        }
    }

    private static GossamerGate after(String text) {
        return Check.passed(Check.country(text), 1);
    }

    // ---- promises 7 to 9

    private static void person() {
        GossamerGate g = Check.busy();
        is("in the air", g, 0, 1, 8, 1, 1, 0);
        is("in the sea", g, 1, -1, 0, 1, 2, 0);
        is("on land", g, 2, 5, 2, 3, 0, 0);
        is("on land", g, 3, 8, 60, 9, 0, 0);
        is("the last", g, 4, 3, 3, 2, 0, 0);
        for (int nobody : new int[] {-1, 5, 6, LEAST, MOST}) {
            CHECK.stays("person " + nobody, Check::busy, x -> x.person(nobody, 0), -2);
        }
        for (int what : new int[] {-1, 5, LEAST, MOST}) {
            CHECK.stays("person's " + what, Check::busy, x -> x.person(0, what), -2);
        }
        CHECK.due("of six the last", Check.country("country 2" + Check.times(6, ";person 3 0 1")).person(5, 0), 3);
        CHECK.due("of six no seventh", Check.country("country 2" + Check.times(6, ";person 3 0 1")).person(6, 0), -2);
        CHECK.due("of none", Check.country("country 2").person(0, 0), -2);
    }

    private static void wind() {
        GossamerGate g = Check.busy();
        CHECK.due("wind 1 way", g.wind(1, 0), 2);
        CHECK.due("wind 1 force", g.wind(1, 1), 1);
        for (int hour : new int[] {-1, 2, 12, LEAST, MOST}) {
            CHECK.stays("wind " + hour, Check::busy, x -> x.wind(hour, 0), -1);
        }
        for (int what : new int[] {-1, 2, LEAST, MOST}) {
            CHECK.stays("wind's " + what, Check::busy, x -> x.wind(0, what), -1);
        }
        GossamerGate twelve = Check.country("country 2" + Check.times(12, ";wind 3 2"));
        CHECK.due("wind 11 of twelve", twelve.wind(11, 0), 3);
        CHECK.due("wind 12 of twelve", twelve.wind(12, 0), -1);
        CHECK.due("wind 0 of none", Check.country("country 2").wind(0, 0), 0);
        CHECK.due("wind 1 of none", Check.country("country 2").wind(1, 0), -1);
    }

    private static void gateIn() {
        GossamerGate g = Check.busy();
        CHECK.due("a gate", g.gateIn(4), 1);
        CHECK.due("no gate", g.gateIn(8), 0);
        for (int cell : new int[] {-1, 9, LEAST, MOST}) {
            CHECK.stays("gateIn " + cell, Check::busy, x -> x.gateIn(cell), -1);
        }
        for (int cell = 0; cell < 49; cell++) {
            GossamerGate one = Check.country("country 7;gate " + cell);
            for (int other : new int[] {0, cell - 1, cell, cell + 1, 48}) {
                CHECK.due("gate " + cell + ", in " + other, one.gateIn(other), other < 0 || other > 48 ? -1 : other == cell ? 1 : 0);
            }
        }
    }

    // ---- promise 10: who goes

    private static void whoGoes() {
        CHECK.due("thread is heavy", Check.country("country 2;person 0 3 3;gate 0").hour(), 1);
        CHECK.due("thread is less than heavy", Check.country("country 2;person 0 2 3;gate 0").hour(), 0);
        CHECK.due("thread is more than heavy", Check.country("country 2;person 0 60 9;gate 0").hour(), 1);
        CHECK.due("no gate", Check.country("country 2;person 0 60 1;gate 1;gate 2;gate 3").hour(), 0);
        CHECK.due("no thread", Check.country("country 2;person 0 0 1;gate 0").hour(), 0);
        CHECK.due("nobody is there", Check.country("country 2;gate 0").hour(), 0);
        CHECK.due("all six", Check.country("country 2" + Check.times(6, ";person 1 9 9") + ";gate 1").hour(), 63);
        CHECK.due("the last alone", Check.country("country 2" + Check.times(5, ";person 1 8 9") + ";person 1 9 9;gate 1").hour(), 32);
        GossamerGate g = Check.country("country 2;person 0 9 3;person 1 3 3;gate 0;gate 1");
        CHECK.due("both go", g.hour(), 3);
        CHECK.due("who is in the air doesn't go again", g.hour(), 0);
        CHECK.stays("no hour without a country", GossamerGate::new, x -> x.hour(), -1);
    }

    private static int gone(String rule) {
        return Check.ruled("country 3;person 0 9 1;person 1 9 2;person 2 9 3;gate 0;gate 1;gate 2", rule).hour();
    }

    private static void ruleSays() {
        CHECK.due("the sum is 0", gone("go 0"), 0);
        CHECK.due("the sum is 1", gone("go 1"), 7);
        CHECK.due("the sum is below 0", gone("go 0 - 5"), 0);
        CHECK.due("each by their own words", gone("go person"), 6);
        CHECK.due("no test holds", gone("go 1 if heavy > 3"), 0);
        CHECK.due("a test holds for one", gone("go 1 if heavy > 2"), 4);
        CHECK.due("the first clause alone", gone("go 0 if heavy = 1; go 1 if heavy < 3; go heavy - 2"), 6);
        CHECK.due("a clause without a test ends it", gone("go 0; go 1"), 0);
        GossamerGate none = Check.ruled("country 3;person 0 9 1;gate 0", "go 0");
        none.force(-1);
        CHECK.due("without a rule all of these", none.hour(), 1);
        GossamerGate weak = Check.ruled("country 3;person 0 2 3;person 1 9 1;gate 0", "go 1");
        CHECK.due("no rule lets go without thread or gate", weak.hour(), 0);
    }

    /** Each other one on land has 1 thread more, 60 at most. */
    private static void threadMore() {
        GossamerGate g = after("country 2;person 0 0 9;person 0 59 9;person 0 60 9;person 1 8 9;person 1 9 9;gate 1");
        CHECK.due("0 and 1", g.person(0, 1), 1);
        CHECK.due("59 and 1", g.person(1, 1), 60);
        CHECK.due("60 at most", g.person(2, 1), 60);
        CHECK.due("at a gate, too", g.person(3, 1), 9);
        CHECK.due("who goes has none more", g.person(4, 1), 0);
        g.hour();
        CHECK.due("then 9 is enough", g.person(3, 1), 0);
        CHECK.due("60 still", g.person(1, 1), 60);
        GossamerGate air = after("country 2;person 0 3 1;gate 0");
        air.hour();
        CHECK.due("in the air none more", air.person(0, 1), 1);
        GossamerGate held = Check.ruled("country 2;person 0 60 1;person 0 5 1;gate 0", "go 0");
        held.hour();
        CHECK.due("whom the rule holds has one more", held.person(1, 1), 6);
        CHECK.due("whom the rule holds has 60 at most", held.person(0, 1), 60);
    }

    /** In the air thread is heavy less, or 0. */
    private static void threadLess() {
        GossamerGate g = after("country 2;person 0 6 3;gate 0");
        is("heavy less", g, 0, 0, 3, 3, 1, 0);
        CHECK.due("tell 1", g.tell(0, 1), 2);
        CHECK.due("still in the air", g.person(0, 3), 1);
        g.hour();
        is("0, if it was less", g, 0, 0, 0, 3, 0, 0);
        g.undo();
        g.undo();
        CHECK.due("tell all", g.tell(0, 3), 0);
        g.hour();
        is("0, if there was none", g, 0, 0, 0, 3, 0, 0);
        g.undo();
        g.undo();
        g.hour();
        is("0, if it was as much", g, 0, 0, 0, 3, 0, 0);
        g.undo();
        g.save(0, 3);
        g.hour();
        is("as much is left", g, 0, 0, 3, 3, 1, 0);
    }

    /** From each cell by each way and force: as many cells, or into the sea. */
    private static void drift() {
        for (int side = 2; side <= 7; side++) {
            for (int cell = 0; cell < side * side; cell++) {
                for (int wind = 0; wind < 16; wind++) {
                    int way = wind / 4;
                    int force = wind % 4;
                    int row = cell / side + (way == 0 ? -force : way == 2 ? force : 0);
                    int column = cell % side + (way == 3 ? -force : way == 1 ? force : 0);
                    boolean sea = row < 0 || row >= side || column < 0 || column >= side;
                    GossamerGate g = after("country " + side + ";wind " + way + " " + force + ";person " + cell + " 9 1;gate " + cell);
                    String where = "side " + side + ", from " + cell + " by " + way + " " + force;
                    is(where, g, 0, sea ? -1 : row * side + column, sea ? 0 : 8, 1, sea ? 2 : 1, 0);
                }
            }
        }
    }

    private static void seaForGood() {
        GossamerGate g = after("country 2;wind 0 1;person 0 9 1;person 0 9 1;person 3 9 1;gate 0");
        CHECK.due("two in the sea", g.count(7), 3);
        CHECK.due("in the sea nobody tangles", g.count(9), 0);
        CHECK.due("no thread", g.person(0, 1) + g.person(1, 1), 0);
        for (int i = 0; i < 5; i++) {
            CHECK.due("nobody goes from the sea", g.hour(), 0);
            is("for good", g, 0, -1, 0, 1, 2, 0);
        }
        CHECK.due("not in the air", g.count(6), 0);
        CHECK.due("thread of who is on land", g.count(8), 15);
        GossamerGate last = after("country 2;wind 3 1;person 0 1 1;gate 0");
        is("into the sea with the last thread", last, 0, -1, 0, 1, 2, 0);
    }

    private static void tangles() {
        GossamerGate two = after("country 3;wind 1 1;person 3 9 1;person 3 9 1;person 4 0 9;gate 3");
        is("two meet", two, 0, 4, 8, 1, 0, 1);
        is("two meet", two, 1, 4, 8, 1, 0, 1);
        is("who is on land there doesn't tangle", two, 2, 4, 1, 9, 0, 0);
        CHECK.due("how often anybody", two.count(9), 2);
        GossamerGate three = after("country 3;person 3 9 1;person 3 9 1;person 3 9 1;gate 3");
        CHECK.due("three meet", three.count(9), 3);
        CHECK.due("three are on land", three.count(6), 0);
        GossamerGate six = after("country 3" + Check.times(6, ";person 3 9 1") + ";gate 3");
        CHECK.due("six meet", six.count(9), 6);
        GossamerGate pairs = after("country 3;person 3 9 1;person 4 9 1;person 3 9 1;person 4 9 1;person 5 9 1;gate 3;gate 4;gate 5");
        CHECK.due("in each cell", pairs.count(9), 4);
        CHECK.due("one alone stays in the air", pairs.count(6), 16);
        GossamerGate again = Check.passed(Check.country("country 2;person 0 9 1;person 0 9 1;gate 0"), 3);
        is("each hour once more", again, 0, 0, 6, 1, 0, 3);
        CHECK.due("those go again", again.hour(), 3);
        GossamerGate meet = Check.country("country 3;wind 1 1;wind 0 0;person 0 9 1;person 1 2 3;gate 0;gate 1");
        CHECK.due("the first goes", meet.hour(), 1);
        CHECK.due("the second goes", meet.hour(), 2);
        is("who was in the air tangles, too", meet, 0, 1, 7, 1, 0, 1);
        is("with who goes now", meet, 1, 1, 0, 3, 0, 1);
        GossamerGate used = after("country 3;person 3 1 1;person 3 1 1;gate 3");
        is("with the thread used up, too", used, 0, 3, 0, 1, 0, 1);
    }

    /** Who has less thread than heavy is on land, in their cell. */
    private static void comingDown() {
        is("as much as heavy: in the air", after("country 3;wind 2 1;person 1 6 3;gate 1"), 0, 4, 3, 3, 1, 0);
        is("one less: on land", after("country 3;wind 2 1;person 1 5 3;gate 1"), 0, 4, 2, 3, 0, 0);
        is("just heavy: on land", after("country 3;wind 2 1;person 1 3 3;gate 1"), 0, 4, 0, 3, 0, 0);
        GossamerGate long60 = after("country 3;person 1 60 1;gate 1");
        Check.passed(long60, 58);
        is("the 59th hour", long60, 0, 1, 1, 1, 1, 0);
        long60.hour();
        is("the 60th hour", long60, 0, 1, 0, 1, 0, 0);
        long60.hour();
        is("on land one more", long60, 0, 1, 1, 1, 0, 0);
    }

    /** Of the winds told the one of the rest of the hour by how many. */
    private static void hoursComeRound() {
        for (int winds = 1; winds <= 12; winds++) {
            for (int when = 0; when < 26; when++) {
                String text = "country 3;person 4 1 1;gate 4" + Check.times(winds - 1, ";wind 0 0") + ";wind 1 1";
                GossamerGate g = Check.passed(Check.ruled(text, "go 1 if hour = " + when), when);
                CHECK.due("goes in hour " + when, g.hour(), 1);
                CHECK.due(winds + " winds, hour " + when, g.person(0, 0), when % winds == winds - 1 ? 5 : 4);
                CHECK.due("hour is 1 more", g.count(5), when + 1);
            }
        }
        GossamerGate calm = Check.passed(Check.ruled("country 2;person 0 1 1;gate 0", "go hour - 3"), 4);
        calm.hour();
        is("without any wind", calm, 0, 0, 4, 1, 1, 0);
    }

    /** Person 5, in cell 48 of side 7, with thread 60 and heavy 9; 0 is in the air there, 1 and 2 on land, 3 on land elsewhere. */
    private static void says(String rule, boolean want) {
        GossamerGate g = Check.country("country 7;wind 3 0;wind 1 2;wind 2 3;person 48 9 1;person 48 0 9;person 48 1 9;person 47 1 9;"
            + "person 46 9 1;person 48 60 9;gate 48;gate 46");
        Check.put(g, "go 1 if heavy = 1").rule();
        g.force(0);
        g.hour();
        g.force(Check.put(g, rule).rule());
        CHECK.due("\"" + rule + "\" lets go", g.hour(), want ? 32 : 0);
    }

    private static void wordsOfTheHour() {
        says("go 1 if person = 5 and row = 6 and column = 6", true);
        says("go 1 if thread = 60 and heavy = 9", true);
        says("go 1 if way = 1 and force = 2 and next = 3", true);
        says("go 1 if air = 2", true);
        says("go 1 if here = 2", true);
        says("go 1 if hour = 1 and tangled = 0", true);
        says("go 1 if not air = 2", false);
        says("go 1 if here > 2 or here < 2", false);
        GossamerGate next = Check.ruled("country 2;wind 0 1;wind 0 0;person 3 9 1;gate 3", "go next");
        CHECK.due("the hour behind it has force 0", next.hour(), 0);
        CHECK.due("the hour behind the last is the first", next.hour(), 1);
        CHECK.due("next of one wind", Check.ruled("country 2;wind 2 1;person 0 9 1;gate 0", "go next").hour(), 1);
        CHECK.due("next of none", Check.ruled("country 2;person 0 9 1;gate 0", "go next + force + way").hour(), 0);
        GossamerGate corner = Check.ruled("country 7;person 0 9 1;person 6 9 1;person 42 9 1;gate 0;gate 6;gate 42", "go row + column - 5");
        CHECK.due("rows and columns", corner.hour(), 6);
        GossamerGate knots = Check.ruled("country 2;person 0 9 1;person 0 9 1;person 3 9 1;gate 0;gate 3", "go 1 if hour = 0; go tangled - 1");
        CHECK.due("all go", knots.hour(), 7);
        CHECK.due("tangled once", knots.hour(), 0);
    }

    // ---- promises 11 to 14

    private static void tell() {
        for (int nobody : new int[] {-1, 1, 5, LEAST, MOST}) {
            CHECK.stays("tell " + nobody, Check::busy, g -> g.tell(nobody, 1), -1);
        }
        for (int much : new int[] {0, 10, -1, LEAST, MOST}) {
            CHECK.stays("tell " + much, Check::busy, g -> g.tell(3, much), -1);
        }
        CHECK.stays("tell more than there is", Check::busy, g -> g.tell(2, 3), -1);
        CHECK.stays("tell more than there is in the air", Check::busy, g -> g.tell(0, 9), -1);
        GossamerGate g = Check.busy();
        CHECK.due("tell all", g.tell(2, 2), 0);
        CHECK.due("tell 1 of none", g.tell(2, 1), -1);
        CHECK.due("tell 9", g.tell(3, 9), 51);
        CHECK.due("tell 1", g.tell(3, 1), 50);
        CHECK.due("tell in the air", g.tell(0, 8), 0);
        CHECK.due("each an act", g.count(12), 6);
    }

    private static void save() {
        for (int nobody : new int[] {-1, 1, 5, LEAST, MOST}) {
            CHECK.stays("save " + nobody, Check::busy, g -> g.save(nobody, 1), -1);
        }
        for (int much : new int[] {0, 10, -1, LEAST, MOST}) {
            CHECK.stays("save " + much, Check::busy, g -> g.save(2, much), -1);
        }
        GossamerGate g = Check.country("country 2;person 0 50 1;person 0 51 1;person 0 52 1;person 0 59 1;person 0 60 1");
        CHECK.due("50 and 9", g.save(0, 9), 59);
        CHECK.due("51 and 9", g.save(1, 9), 60);
        CHECK.due("52 and 9", g.save(2, 9), 60);
        CHECK.due("59 and 1", g.save(3, 1), 60);
        CHECK.due("60 and 1", g.save(4, 1), 60);
        CHECK.due("each an act", g.count(12), 5);
        CHECK.due("undo the last", g.undo(), 4);
        g.undo();
        g.undo();
        CHECK.due("52 again", g.person(2, 1), 52);
        CHECK.due("save in the air", Check.busy().save(0, 1), 9);
    }

    private static void carry() {
        for (int nobody : new int[] {-1, 5, LEAST, MOST}) {
            CHECK.stays("carry " + nobody, Check::busy, g -> g.carry(nobody, 7), -1);
        }
        for (int cell : new int[] {-1, 9, LEAST, MOST}) {
            CHECK.stays("carry to " + cell, Check::busy, g -> g.carry(2, cell), -1);
        }
        CHECK.stays("carry to where they are", Check::busy, g -> g.carry(2, 5), -1);
        CHECK.stays("carry in the air", Check::busy, g -> g.carry(0, 7), -1);
        CHECK.stays("carry in the sea", Check::busy, g -> g.carry(1, 7), -1);
        GossamerGate g = Check.busy();
        CHECK.due("carry to the first", g.carry(2, 0), 5);
        CHECK.due("carry to the last, where another one is", g.carry(2, 8), 0);
        CHECK.due("carried", g.person(2, 0), 8);
        CHECK.due("each an act", g.count(12), 4);
    }

    private static void gate() {
        for (int cell : new int[] {-1, 9, LEAST, MOST}) {
            CHECK.stays("gate " + cell, Check::busy, g -> g.gate(cell), -1);
        }
        GossamerGate g = Check.busy();
        CHECK.due("there is one", g.gate(8), 1);
        CHECK.due("there is one: in it", g.gateIn(8), 1);
        CHECK.due("there is none", g.gate(0), 0);
        CHECK.due("there is none: in it", g.gateIn(0), 0);
        CHECK.due("there is one again", g.gate(0), 1);
        CHECK.due("how many", g.count(10), 4);
        CHECK.due("each an act", g.count(12), 5);
        GossamerGate all = Check.country("country 7");
        for (int cell = 0; cell < 49; cell++) {
            CHECK.due("a gate in " + cell, all.gate(cell), 1);
            CHECK.due("gates", all.count(10), cell + 1);
        }
        CHECK.due("gate 49", all.gate(49), -1);
    }

    // ---- promise 15

    private static void undoTwenty() {
        CHECK.stays("none can be", () -> Check.country("country 2"), g -> g.undo(), -1);
        GossamerGate g = Check.country("country 2;person 0 0 1");
        for (int i = 1; i <= 19; i++) {
            g.save(0, 1);
            CHECK.due("acts", g.count(12), i);
        }
        g.save(0, 1);
        CHECK.due("the twentieth", g.count(12), 20);
        g.save(0, 1);
        CHECK.due("the last 20", g.count(12), 20);
        for (int i = 19; i >= 0; i--) {
            CHECK.due("how many more", g.undo(), i);
            CHECK.due("the last first", g.person(0, 1), i + 1);
        }
        CHECK.due("no more", g.undo(), -1);
        CHECK.due("the first stays", g.person(0, 1), 1);
        GossamerGate round = Check.country("country 2;person 0 0 1");
        for (int i = 0; i < 25; i++) {
            round.save(0, 1);
        }
        for (int i = 0; i < 3; i++) {
            round.undo();
        }
        CHECK.due("three undone", round.count(12), 17);
        for (int i = 0; i < 5; i++) {
            round.tell(0, 1);
        }
        CHECK.due("20 again", round.count(12), 20);
        int[] want = {18, 19, 20, 21, 22, 21, 20, 19, 18, 17, 16, 15, 14, 13, 12, 11, 10, 9, 8, 7};
        for (int i = 0; i < 20; i++) {
            CHECK.due("undone", round.undo(), 19 - i);
            CHECK.due("thread then", round.person(0, 1), want[i]);
        }
        CHECK.due("no more", round.undo(), -1);
    }

    private static void undoEach() {
        GossamerGate g = Check.country("country 2;wind 0 1;person 0 9 1;person 2 9 1;person 2 9 1;gate 0;gate 2");
        g.hour();
        is("in the sea", g, 0, -1, 0, 1, 2, 0);
        is("tangled", g, 1, 0, 8, 1, 0, 1);
        g.carry(1, 3);
        g.gate(2);
        g.tell(2, 5);
        CHECK.due("undo tell", g.undo(), 3);
        CHECK.due("told no more", g.person(2, 1), 8);
        CHECK.due("undo gate", g.undo(), 2);
        CHECK.due("a gate again", g.gateIn(2), 1);
        CHECK.due("undo carry", g.undo(), 1);
        CHECK.due("carried no more", g.person(1, 0), 0);
        CHECK.due("undo hour", g.undo(), 0);
        is("out of the sea", g, 0, 0, 9, 1, 0, 0);
        is("not tangled", g, 1, 2, 9, 1, 0, 0);
        CHECK.due("hour 0", g.count(5), 0);
        CHECK.due("the same hour once more", g.hour(), 7);
    }

    /** Force, seed, notes, images, and the tape are no acts: they can't be undone, and stay when acts are. */
    private static void whatIsNoAct() {
        GossamerGate g = Check.country("country 2;person 0 9 1;gate 0");
        g.save(0, 1);
        g.force(Check.put(g, "go 0").rule());
        g.seed(5);
        g.note(0, 0, 0);
        g.image(0);
        g.feed(0, 0, 0, 0, 0);
        CHECK.due("one act", g.count(12), 1);
        CHECK.due("undo", g.undo(), 0);
        CHECK.due("thread", g.person(0, 1), 9);
        CHECK.due("in force", g.count(4), 0);
        CHECK.due("x", g.count(13), 5);
        CHECK.due("notes", g.count(11), 1);
        CHECK.due("tape", g.count(14), 20);
        CHECK.due("rules", g.count(3), 1);
        CHECK.due("the image", g.back(0), 0);
        CHECK.due("the image: thread", g.person(0, 1), 10);
    }

    // ---- promise 34

    private static void count() {
        GossamerGate g = Check.busy();
        int[] want = {3, 2, 5, 1, 0, 1, 1, 2, 73, 0, 3, 1, 2, 123, 4};
        for (int what = 0; what < want.length; what++) {
            int due = want[what];
            int asked = what;
            CHECK.stays("count(" + what + ")", Check::busy, x -> x.count(asked), due);
        }
        for (int what : new int[] {-1, 15, LEAST, MOST}) {
            CHECK.stays("count(" + what + ")", Check::busy, x -> x.count(what), -1);
        }
        g.force(-1);
        CHECK.due("none in force", g.count(4), -1);
        GossamerGate full = after("country 2;wind 0 1" + Check.times(6, ";person 0 60 1") + ";gate 0");
        CHECK.due("all in the sea", full.count(7), 63);
        CHECK.due("no thread", full.count(8), 0);
        CHECK.due("thread of all", Check.country("country 2" + Check.times(6, ";person 0 60 1")).count(8), 360);
        GossamerGate air = after("country 3;person 0 9 1;person 1 9 1;person 2 9 1;person 3 9 1;person 4 9 1;person 5 9 1;"
            + "gate 0;gate 1;gate 2;gate 3;gate 4;gate 5");
        CHECK.due("all in the air", air.count(6), 63);
        CHECK.due("all knots", Check.passed(Check.country("country 2" + Check.times(6, ";person 0 60 1") + ";gate 0"), 10).count(9), 60);
        CHECK.due("all gates", Check.country("country 2;gate 0;gate 1;gate 2;gate 3").count(10), 4);
        CHECK.due("the most x", seeded(MOST).count(13), MOST);
    }

    private static GossamerGate seeded(int x) {
        GossamerGate g = new GossamerGate();
        g.seed(x);
        return g;
    }

    // ---- promises 35 and 36

    private static void image() {
        for (int k : new int[] {-1, 4, LEAST, MOST}) {
            CHECK.stays("image " + k, Check::busy, g -> g.image(k), -1);
        }
        GossamerGate g = Check.busy();
        for (int k = 0; k < 4; k++) {
            CHECK.due("image " + k, g.image(k), k + 1);
            CHECK.due("acts can be undone still", g.count(12), 2 + k);
            g.hour();
        }
        for (int k = 3; k >= 0; k--) {
            CHECK.due("back to " + k, g.back(k), k + 1);
            CHECK.due("hour", g.count(5), k + 1);
        }
        Check.passed(g, 7);
        CHECK.due("made once more", g.image(2), 8);
        g.back(0);
        CHECK.due("the last made", g.back(2), 8);
        CHECK.due("without a country", new GossamerGate().image(0), 0);
    }

    private static void back() {
        for (int k : new int[] {-1, 4, 0, 2, 3, LEAST, MOST}) {
            CHECK.stays("back " + k, Check::busy, g -> g.back(k), -1);
        }
        GossamerGate g = Check.busy();
        CHECK.due("back", g.back(1), 1);
        CHECK.due("nothing can be undone", g.count(12), 0);
        CHECK.due("nothing is undone", g.undo(), -1);
        is("as it was", g, 4, 3, 2, 2, 0, 0);
        is("as it was", g, 0, 1, 8, 1, 1, 0);
        CHECK.due("the tape stays", g.count(14), 4);
        CHECK.due("it is a rule", g.rule(), 1);
        Supplier<GossamerGate> changed = () -> {
            GossamerGate x = Check.busy();
            x.force(x.rule());
            x.seed(7);
            x.note(0, 4, 3);
            x.gate(8);
            x.gate(0);
            x.hour();
            Check.put(x, "country 2;wind 0 3;person 3 1 9").country();
            x.note(0, 0, 2);
            return x;
        };
        GossamerGate other = changed.get();
        CHECK.due("another country", other.count(0), 2);
        CHECK.due("back to the first", other.back(1), 1);
        int[] want = {3, 2, 5, 2, 0, 1, 1, 2, 72, 0, 3, 1, 0, 123, 0};
        for (int what = 0; what < want.length; what++) {
            CHECK.due("back: count(" + what + ")", other.count(what), want[what]);
        }
        CHECK.due("back: wind", other.wind(0, 1), 1);
        CHECK.due("back: gate", other.gateIn(0), 1);
        CHECK.due("back: no gate", other.gateIn(8), 0);
        CHECK.due("back: heavy", other.person(3, 2), 9);
        CHECK.due("back: its notes, from its begin on", other.ruled(0), 3);
        other.hour();
        other.gate(5);
        CHECK.due("acts again", other.count(12), 2);
        CHECK.due("an image stays", other.back(1), 1);
        CHECK.due("nothing can be undone again", other.undo(), -1);
        GossamerGate noted = Check.country("country 3;wind 1 1;person 0 0 9;person 3 1 1;gate 3");
        noted.force(Check.put(noted, "go 0").rule());
        noted.note(5, 1, 4);
        CHECK.due("none alone moves person 1", noted.ruled(1), -1);
        noted.image(0);
        noted.note(-1, 0, 0);
        noted.note(0, 0, 0);
        CHECK.due("by both person 0 is there", noted.ruled(0), 2);
        noted.back(0);
        CHECK.due("back: what was noted", noted.ruled(1), -1);
        CHECK.due("back: what was noted", noted.ruled(0), 1);
        GossamerGate empty = new GossamerGate();
        empty.image(3);
        Check.put(empty, "country 2;person 0 1 1").country();
        empty.hour();
        CHECK.due("back to no country", empty.back(3), 0);
        CHECK.due("no side", empty.count(0), 0);
        CHECK.due("no hours that come round", empty.count(1), 0);
        CHECK.due("nobody", empty.person(0, 0), -2);
        CHECK.due("no hour", empty.hour(), -1);
    }
}
