/** Promises 16 to 33: what is asked, pence, notes, draws. */
public final class AskTest {
    private static final Check CHECK = new Check();
    private static final String SMALL = "country 3;wind 1 1;wind 2 1;person 0 5 2;person 3 1 3;gate 0;gate 3";
    private static final String TWO = "country 3;wind 1 1;person 0 5 3;person 0 9 3;gate 0";

    public static void main(String[] args) {
        ahead();
        goes();
        down();
        gone();
        timing();
        had();
        tangle();
        flock();
        bestGate();
        bestWinds();
        rests();
        ring();
        pence();
        notes();
        look();
        seeds();
        gusts();
        nothingChanges();
        CHECK.finish();
    }

    private static void ahead() {
        GossamerGate g = Check.country(SMALL);
        CHECK.due("ahead 0", g.ahead(0, 0, 0), 0);
        CHECK.due("ahead 1 cell", g.ahead(0, 1, 0), 1);
        CHECK.due("ahead 1 thread", g.ahead(0, 1, 1), 3);
        CHECK.due("ahead 1 place", g.ahead(0, 1, 2), 1);
        CHECK.due("ahead 2 cell", g.ahead(0, 2, 0), 4);
        CHECK.due("ahead 2 place", g.ahead(0, 2, 2), 0);
        CHECK.due("ahead 100", g.ahead(0, 100, 1), 60);
        CHECK.due("ahead 101", g.ahead(0, 101, 1), -2);
        CHECK.due("ahead -1", g.ahead(0, -1, 1), -2);
        CHECK.due("ahead of nobody", g.ahead(2, 1, 1), -2);
        CHECK.due("ahead what 3", g.ahead(0, 1, 3), -2);
        GossamerGate sea = Check.country("country 2;wind 0 1;person 0 1 1;gate 0");
        CHECK.due("ahead sea", sea.ahead(0, 1, 0), -1);
        CHECK.due("ahead sea thread", sea.ahead(0, 1, 1), 0);
        CHECK.due("ahead sea place", sea.ahead(0, 1, 2), 2);
    }

    private static void goes() {
        GossamerGate g = Check.country(SMALL);
        CHECK.due("goes 0", g.goes(0), 0);
        CHECK.due("goes 1", g.goes(1), 2);
        CHECK.due("goes of nobody", g.goes(2), -1);
        g.hour();
        CHECK.due("goes 0, in the air", g.goes(0), -2);
        CHECK.due("goes 1 still in hour 2", g.goes(1), 2);
        Check.put(g, "go hour - 198").rule();
        Check.put(g, "go hour - 199").rule();
        g.undo();
        g.force(0);
        CHECK.due("the last of 200", g.goes(0), 199);
        g.force(1);
        CHECK.due("in none of 200", g.goes(0), -2);
    }

    private static void down() {
        GossamerGate g = Check.country(SMALL);
        CHECK.due("down on land", g.down(0, 0), -3);
        g.hour();
        CHECK.due("down hour", g.down(0, 0), 1);
        CHECK.due("down cell", g.down(0, 1), 4);
        CHECK.due("down what 2", g.down(0, 2), -3);
        CHECK.due("down of nobody", g.down(2, 0), -3);
        GossamerGate sea = Check.country("country 3;wind 1 1;person 0 9 1;gate 0");
        sea.hour();
        CHECK.due("down into the sea", sea.down(0, 1), -1);
        CHECK.due("down into the sea: hour", sea.down(0, 0), 2);
        GossamerGate calm = Check.country("country 3;person 0 60 1;gate 0");
        calm.hour();
        CHECK.due("down in the 60th hour", calm.down(0, 0), 59);
    }

    private static void gone() {
        GossamerGate g = Check.country(SMALL);
        CHECK.due("gone now", g.gone(0, 0, 0), 4);
        CHECK.due("gone now: hour", g.gone(0, 0, 1), 1);
        CHECK.due("gone 1: tangles with person 1", g.gone(0, 1, 0), 4);
        CHECK.due("gone 1: hour", g.gone(0, 1, 1), 2);
        CHECK.due("can't go", g.gone(1, 0, 0), -2);
        CHECK.due("can't go", g.gone(1, 1, 1), -2);
        CHECK.due("gone 2", g.gone(1, 2, 0), 4);
        CHECK.due("gone 2: hour", g.gone(1, 2, 1), 2);
        CHECK.due("gone 61", g.gone(0, 61, 0), -3);
        CHECK.due("gone -1", g.gone(0, -1, 0), -3);
        CHECK.due("gone what 2", g.gone(0, 0, 2), -3);
        CHECK.due("gone of nobody", g.gone(2, 0, 0), -3);
        g.gate(0);
        CHECK.due("gone without a gate", g.gone(0, 0, 0), 4);
        g.undo();
        Check.put(g, "go 0").rule();
        g.force(0);
        CHECK.due("gone whatever the rule says", g.gone(0, 0, 0), 4);
        g.force(-1);
        g.hour();
        CHECK.due("gone in the air", g.gone(0, 0, 0), -3);
        GossamerGate sea = Check.country("country 2;wind 0 1;person 0 1 1");
        CHECK.due("gone into the sea", sea.gone(0, 0, 0), -1);
        CHECK.due("gone into the sea: hour", sea.gone(0, 3, 1), 3);
        GossamerGate two = Check.country(TWO);
        CHECK.due("gone tangles with the other", two.gone(0, 0, 0), 1);
        CHECK.due("gone later goes on alone", two.gone(1, 1, 1), 3);
    }

    private static void timing() {
        GossamerGate g = Check.country(SMALL);
        CHECK.due("timing 4", g.timing(1, 4), 2);
        CHECK.due("timing now", g.timing(0, 4), 0);
        CHECK.due("timing of none", g.timing(1, 0), -2);
        CHECK.due("timing cell 9", g.timing(1, 9), -1);
        CHECK.due("timing sea", g.timing(1, -1), -1);
        CHECK.due("timing of nobody", g.timing(2, 0), -1);
        g.hour();
        CHECK.due("timing in the air", g.timing(0, 4), -1);
        GossamerGate calm = Check.country("country 2;person 0 0 9");
        CHECK.due("timing once heavy enough", calm.timing(0, 0), 9);
        // Two rows down in hour 0 of twelve, one up in hour 9: only ten hours in the air, from an hour 0 on, lead to cell 3.
        GossamerGate last = Check.country("country 3;wind 2 2" + Check.times(8, ";wind 0 0") + ";wind 0 1;wind 0 0;wind 0 0;person 0 0 6");
        CHECK.due("timing 60, the last", last.timing(0, 3), 60);
        for (int i = 0; i < 11; i++) {
            last.hour();
        }
        last.tell(0, 9);
        last.tell(0, 2);
        CHECK.due("timing 61 is too late", last.timing(0, 3), -2);
        last.hour();
        last.tell(0, 1);
        CHECK.due("timing 60 once more", last.timing(0, 3), 60);
    }

    private static void had() {
        GossamerGate g = Check.country(SMALL);
        CHECK.due("had 1", g.had(0, 1, 0), 2);
        CHECK.due("had 1: least", g.had(0, 1, 1), 2);
        CHECK.due("had 4", g.had(0, 4, 0), 2);
        CHECK.due("had 4: least", g.had(0, 4, 1), 4);
        CHECK.due("had 5: least", g.had(0, 5, 1), 6);
        CHECK.due("had 8: least", g.had(0, 8, 1), 8);
        CHECK.due("had 0", g.had(0, 0, 0), 0);
        CHECK.due("had 0: least", g.had(0, 0, 1), -2);
        CHECK.due("had cell 9", g.had(0, 9, 0), -1);
        CHECK.due("had cell -1", g.had(0, -1, 0), -1);
        CHECK.due("had what 2", g.had(0, 1, 2), -1);
        CHECK.due("had of nobody", g.had(2, 1, 0), -1);
        GossamerGate calm = Check.country("country 2;person 0 0 9");
        CHECK.due("had all from heavy on", calm.had(0, 0, 0), 52);
        calm.gate(0);
        g.hour();
        CHECK.due("had in the air", g.had(0, 1, 0), -1);
    }

    private static void tangle() {
        GossamerGate g = Check.country(TWO);
        CHECK.due("tangle hour", g.tangle(0), 0);
        CHECK.due("tangle cell", g.tangle(1), 1);
        CHECK.due("tangle what 2", g.tangle(2), -1);
        CHECK.due("tangle what -1", g.tangle(-1), -1);
        g.hour();
        CHECK.due("no more", g.tangle(0), -2);
        CHECK.due("no more", g.tangle(1), -2);
        GossamerGate several = Check.country("country 3;person 7 3 3;person 2 3 3;person 7 3 3;person 2 3 3;gate 2;gate 7");
        CHECK.due("the least of several", several.tangle(1), 2);
        GossamerGate late = Check.country("country 3;person 7 0 9;person 7 0 9;gate 7");
        CHECK.due("later", late.tangle(0), 9);
        Check.put(late, "go hour - 198").rule();
        Check.put(late, "go hour - 199").rule();
        late.force(0);
        CHECK.due("the last of 200", late.tangle(0), 199);
        late.force(1);
        CHECK.due("in none of 200", late.tangle(0), -2);
    }

    private static void flock() {
        GossamerGate g = Check.country(TWO);
        CHECK.due("flock", g.flock(1, 0), 1);
        CHECK.due("flock sea", g.flock(1, 1), 0);
        CHECK.due("flock tangles", g.flock(1, 2), 0);
        CHECK.due("flock 41", g.flock(41, 0), -1);
        CHECK.due("flock 0", g.flock(0, 0), -1);
        CHECK.due("flock what 3", g.flock(1, 3), -1);
        g.hour();
        CHECK.due("tangled by then", g.flock(1, 2), 2);
        CHECK.due("thread 2 of heavy 3 can't", g.flock(1, 0), 2);
        GossamerGate sea = Check.country("country 2;wind 0 1;wind 1 0;person 0 9 1;person 2 9 1;person 3 0 1;gate 0");
        CHECK.due("flock without a gate", sea.flock(1, 0), 2);
        CHECK.due("gates are for later hours", sea.flock(1, 1), 0);
        // By none or by {0} one is in the sea; the larger set comes first.
        CHECK.due("one is lost anyway", sea.flock(3, 1), 1);
        CHECK.due("most people", sea.flock(3, 0), 1);
        GossamerGate nobody = Check.country("country 2");
        CHECK.due("nobody", nobody.flock(40, 0), 0);
    }

    private static void bestGate() {
        GossamerGate g = Check.country("country 3;wind 1 1;person 4 5 5");
        CHECK.due("best gate", g.bestGate(1, 0), 4);
        CHECK.due("best gate: how many", g.bestGate(1, 1), 1);
        g.gate(4);
        CHECK.due("nothing done", g.bestGate(1, 0), -1);
        CHECK.due("nothing done: how many", g.bestGate(1, 1), 1);
        CHECK.due("best gate 0", g.bestGate(0, 0), -2);
        CHECK.due("best gate 41", g.bestGate(41, 0), -2);
        CHECK.due("best gate what 2", g.bestGate(1, 2), -2);
        GossamerGate sea = Check.country("country 3;wind 1 1;wind 1 0;person 2 9 1;gate 2");
        CHECK.due("in the sea nobody counts", sea.bestGate(1, 1), 0);
        GossamerGate worse = Check.country("country 3;wind 1 1;wind 3 1;person 1 2 1;gate 1");
        CHECK.due("there and back again", worse.bestGate(2, 1), 0);
        CHECK.due("there and back again: nothing done", worse.bestGate(2, 0), -1);
        GossamerGate away = Check.country("country 3;wind 1 2;wind 1 0;person 0 1 1;person 2 1 1;gate 0;gate 2");
        CHECK.due("one moves anyway", away.bestGate(1, 0), -1);
        GossamerGate gateGone = Check.country("country 4;wind 1 1;wind 1 3;wind 1 3;person 0 1 1;gate 0;gate 1");
        CHECK.due("a gate away", gateGone.bestGate(3, 0), 1);
        CHECK.due("a gate away: how many", gateGone.bestGate(3, 1), 1);
    }

    private static void bestWinds() {
        GossamerGate g = Check.country("country 2;wind 0 1;wind 1 1;person 0 2 1;gate 0");
        CHECK.due("winds: sea", g.bestWinds(1, 0), 0);
        CHECK.due("winds: first", g.bestWinds(1, 1), 0);
        CHECK.due("winds: other", g.bestWinds(1, 2), 1);
        CHECK.due("no help: sea", g.bestWinds(2, 0), 1);
        CHECK.due("no help: none", g.bestWinds(2, 1), -1);
        CHECK.due("no help: none", g.bestWinds(2, 2), -1);
        CHECK.due("winds 0", g.bestWinds(0, 0), -2);
        CHECK.due("winds 41", g.bestWinds(41, 0), -2);
        CHECK.due("winds what 3", g.bestWinds(1, 3), -2);
        GossamerGate calm = Check.country("country 2;person 0 2 1;gate 0");
        CHECK.due("none told", calm.bestWinds(40, 1), -1);
        GossamerGate later = Check.country("country 2;wind 0 1;wind 0 2;wind 1 1;wind 1 0;person 0 1 1;gate 0");
        CHECK.due("the least other", later.bestWinds(1, 2), 2);
    }

    private static void rests() {
        GossamerGate g = Check.country("country 3;person 0 1 1;person 0 1 1;person 0 1 1;gate 0");
        CHECK.due("both go", g.rests(0, 1, 1, 0), 1);
        CHECK.due("both go: one", g.rests(0, 1, 1, 1), 0);
        CHECK.due("both go: other", g.rests(0, 1, 1, 2), 0);
        CHECK.due("like", g.rests(0, 0, 1, 0), -1);
        CHECK.due("rests 0", g.rests(0, 1, 0, 0), -1);
        CHECK.due("rests 21", g.rests(0, 1, 21, 0), -1);
        CHECK.due("rests what 3", g.rests(0, 1, 1, 3), -1);
        CHECK.due("rests of nobody", g.rests(0, 3, 1, 0), -1);
        GossamerGate sea = Check.country("country 3;wind 0 1;person 0 9 1;person 1 9 1;gate 0;gate 1");
        CHECK.due("neither goes", sea.rests(0, 1, 1, 0), 9);
        CHECK.due("neither goes: one", sea.rests(0, 1, 1, 1), 1);
        CHECK.due("neither goes: other", sea.rests(0, 1, 1, 2), 1);
        CHECK.due("three hours", sea.rests(0, 1, 3, 0), 1);
        CHECK.due("three hours: one", sea.rests(0, 1, 3, 1), 3);
        // Ten hours in the air and then the sea are as much as never to go.
        GossamerGate ten = Check.country("country 3" + Check.times(9, ";wind 0 0") + ";wind 0 1;person 0 60 1;person 1 60 1;gate 0;gate 1");
        Check.put(ten, "go 1 if hour = 0").rule();
        ten.force(0);
        CHECK.due("all are alike", ten.rests(0, 1, 10, 0), 16);
        CHECK.due("ahead of the sea", ten.rests(0, 1, 9, 0), 1);
        CHECK.due("ahead of the sea: one", ten.rests(0, 1, 9, 1), 0);
        CHECK.due("by hour 10 nothing more", ten.rests(0, 1, 20, 0), 16);
        GossamerGate none = Check.country("country 3;wind 3 1;wind 3 1;wind 2 1;person 1 6 3;person 1 2 1;gate 8;gate 1");
        CHECK.due("no two", none.rests(0, 1, 5, 0), 0);
        CHECK.due("no two: one", none.rests(0, 1, 5, 1), -2);
        CHECK.due("no two: other", none.rests(0, 1, 5, 2), -2);
        GossamerGate air = Check.country("country 3;person 0 9 1;person 1 0 9;gate 0");
        air.hour();
        CHECK.due("in the air", air.rests(0, 1, 1, 0), -1);
    }

    private static void ring() {
        GossamerGate g = Check.country("country 2;person 0 1 1");
        CHECK.due("the last of 60", g.ring(0), 59);
        CHECK.due("the last of 60: later", g.ring(1), 1);
        CHECK.due("ring what 2", g.ring(2), -1);
        CHECK.due("ring what -1", g.ring(-1), -1);
        GossamerGate none = Check.country("country 2;person 0 0 1");
        CHECK.due("past 60", none.ring(0), -2);
        CHECK.due("past 60", none.ring(1), -2);
        GossamerGate round = Check.country("country 2;wind 0 0;wind 1 0;wind 2 0;person 0 60 1");
        CHECK.due("same hour comes round", round.ring(1), 3);
        round.hour();
        CHECK.due("this hour", round.ring(0), 1);
        GossamerGate going = Check.country("country 2;person 0 2 1;gate 0");
        CHECK.due("up and down", going.ring(0), 2);
        CHECK.due("up and down: later", going.ring(1), 2);
    }

    private static void pence() {
        GossamerGate g = Check.country(SMALL);
        CHECK.due("pence 0", g.pence(100, 0), 83);
        CHECK.due("pence 1", g.pence(100, 1), 17);
        CHECK.due("pence 9999", g.pence(9999, 0), 8333);
        CHECK.due("pence 9999", g.pence(9999, 1), 1666);
        CHECK.due("pence 10000", g.pence(10000, 0), -1);
        CHECK.due("pence -1", g.pence(-1, 0), -1);
        CHECK.due("no pence", g.pence(0, 0), 0);
        CHECK.due("pence of nobody", g.pence(1, 2), -1);
        GossamerGate alike = Check.country("country 2;person 0 1 1;person 0 1 1;person 0 1 1;person 0 0 1");
        int[] want = {2, 2, 1, 0};
        for (int p = 0; p < 4; p++) {
            CHECK.due("the least first", alike.pence(5, p), want[p]);
        }
        GossamerGate none = Check.country("country 2;person 0 0 1");
        CHECK.due("no thread", none.pence(7, 0), 0);
    }

    private static void notes() {
        GossamerGate g = Check.country(SMALL);
        Check.put(g, "go thread - 5").rule();
        Check.put(g, "go 1").rule();
        CHECK.due("all are so", g.ruled(0), 3);
        CHECK.due("none is the first", g.ruled(1), -1);
        g.hour();
        g.force(0);
        CHECK.due("note 61", g.note(61, 0, 0), -2);
        CHECK.due("note -2", g.note(-2, 0, 0), -2);
        CHECK.due("note of nobody", g.note(0, 2, 0), -2);
        CHECK.due("note cell 9", g.note(0, 0, 9), -2);
        CHECK.due("note cell -2", g.note(0, 0, -2), -2);
        CHECK.due("note", g.note(1, 0, 1), 1);
        CHECK.due("two are so", g.ruled(0), 2);
        CHECK.due("none and 1", g.ruled(1), -1);
        CHECK.due("no notes", g.note(-1, 9, 99), 0);
        CHECK.due("note", g.note(1, 0, 0), 1);
        CHECK.due("one is so", g.ruled(0), 1);
        CHECK.due("rule 0", g.ruled(1), 0);
        CHECK.due("note sea", g.note(60, 1, -1), 2);
        CHECK.due("none is so", g.ruled(0), 0);
        CHECK.due("none is so", g.ruled(1), -2);
        CHECK.due("look at none", g.look(0, 0), -2);
        CHECK.due("look at none", g.look(0, 1), -2);
        for (int i = 3; i <= 10; i++) {
            CHECK.due("note", g.note(0, 0, 0), i);
        }
        CHECK.due("an eleventh", g.note(0, 0, 0), -2);
        CHECK.due("ten", g.count(11), 10);
        CHECK.due("ruled what 2", g.ruled(2), -3);
        CHECK.due("ruled what -1", g.ruled(-1), -3);
        GossamerGate sea = Check.country("country 2;wind 0 1;person 0 1 1;gate 0");
        sea.note(1, 0, -1);
        CHECK.due("the sea", sea.ruled(0), 1);
        sea.note(0, 0, 1);
        CHECK.due("as the text told it", sea.ruled(0), 0);
        GossamerGate carried = Check.country("country 2;person 0 1 1");
        carried.carry(0, 3);
        carried.note(0, 0, 0);
        CHECK.due("not where they are now", carried.ruled(0), 1);
    }

    private static void look() {
        GossamerGate g = Check.country("country 4;wind 2 1;person 0 3 9;person 1 2 2;person 2 9 1;gate 1;gate 2");
        Check.put(g, "go 0").rule();
        Check.put(g, "go person - 1").rule();
        CHECK.due("at the begin all are alike", g.look(0, 0), 0);
        CHECK.due("at the begin: how many", g.look(0, 1), 3);
        // In hour 1 person 1 has gone by none alone, person 2 by none and by rule 1.
        CHECK.due("the least of several", g.look(1, 0), 1);
        CHECK.due("the most alike", g.look(1, 1), 2);
        CHECK.due("look 61", g.look(61, 0), -1);
        CHECK.due("look -1", g.look(-1, 0), -1);
        CHECK.due("look what 2", g.look(1, 2), -1);
        GossamerGate nobody = Check.country("country 2");
        CHECK.due("nobody", nobody.look(0, 0), -2);
        CHECK.due("nobody", nobody.look(0, 1), -2);
        CHECK.due("nobody, none is so", nobody.ruled(0), 1);
    }

    private static void seeds() {
        GossamerGate g = new GossamerGate();
        CHECK.due("seed", g.seed(2147483647), 0);
        CHECK.due("below 0", g.seed(-1), -1);
        CHECK.due("least", g.seed(-2147483648), -1);
        CHECK.due("seed 0", g.seed(0), 2147483647);
    }

    private static void gusts() {
        // From x 0 the draws are 0, 21468, 9988, 22117, 3498, 16927, ..: first WAY 0 FORCE 0, then WAY 2 FORCE 3.
        GossamerGate g = Check.country("country 3;person 0 60 1;gate 0");
        CHECK.due("17 is not below 17", g.gusts(1, 2, 17, 0), 0);
        CHECK.due("17 is below 18", g.gusts(1, 2, 18, 0), 1);
        CHECK.due("draws go on", g.gusts(2, 1, 18, 0), 1);
        CHECK.due("without gusts", g.gusts(10, 60, 0, 0), 0);
        CHECK.due("x as it was", g.count(13), 0);
        CHECK.due("m 0", g.gusts(0, 1, 1, 0), -1);
        CHECK.due("m 11", g.gusts(11, 1, 1, 0), -1);
        CHECK.due("n 0", g.gusts(1, 0, 1, 0), -1);
        CHECK.due("n 61", g.gusts(1, 61, 1, 0), -1);
        CHECK.due("p -1", g.gusts(1, 1, -1, 0), -1);
        CHECK.due("p 101", g.gusts(1, 1, 101, 0), -1);
        CHECK.due("what 2", g.gusts(1, 1, 1, 2), -1);
        GossamerGate two = Check.country(TWO);
        CHECK.due("tangles", two.gusts(3, 1, 0, 1), 6);
        two.hour();
        CHECK.due("tangles in these", two.gusts(3, 1, 0, 1), 0);
        GossamerGate words = Check.country("country 3;wind 1 1;person 4 60 1;gate 4");
        Check.put(words, "go 1 if way = 0 and force = 0 and next = 1").rule();
        words.force(0);
        CHECK.due("gusts are words", words.gusts(1, 2, 100, 0), 1);
    }

    private static void nothingChanges() {
        GossamerGate g = Check.country(SMALL);
        g.hour();
        g.ahead(0, 100, 0);
        g.goes(1);
        g.down(0, 0);
        g.gone(1, 5, 0);
        g.timing(1, 0);
        g.had(1, 0, 0);
        g.tangle(0);
        g.flock(40, 0);
        g.bestGate(40, 0);
        g.bestWinds(40, 0);
        g.ring(0);
        g.ruled(0);
        g.look(60, 0);
        g.gusts(10, 60, 50, 0);
        CHECK.due("hour", g.count(5), 1);
        CHECK.due("gates", g.count(10), 2);
        CHECK.due("acts", g.count(12), 1);
        CHECK.due("cell", g.person(0, 0), 1);
        CHECK.due("thread", g.person(0, 1), 3);
        CHECK.due("thread of all", g.count(8), 5);
        CHECK.due("wind", g.wind(0, 0), 1);
        CHECK.due("hour 1", g.hour(), 0);
        CHECK.due("cell then", g.person(0, 0), 4);
    }
}
