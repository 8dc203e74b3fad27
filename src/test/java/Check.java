import java.util.function.Supplier;
import java.util.function.ToIntFunction;

/** Counts the answers that are not as due, and tells texts to an object. */
final class Check {
    private int wrong = 0;

    void due(String what, long got, long want) {
        if (got != want) {
            wrong++;
            System.out.println(what + " answered " + got + ", due is " + want);
        }
    }

    /** A call by which nothing changes: asked, or refused. Each object is new, and has far fewer than 512 calls. */
    void stays(String what, Supplier<GossamerGate> maker, ToIntFunction<GossamerGate> call, int want) {
        GossamerGate gate = maker.get();
        due(what, call.applyAsInt(gate), want);
        String after = story(gate);
        String before = story(maker.get());
        if (!after.equals(before)) {
            wrong++;
            System.out.println(what + " changed\n  " + before + "\nto\n  " + after);
        }
    }

    void finish() {
        System.out.println(wrong == 0 ? "all answers are as due" : wrong + " answers are not as due");
        if (wrong != 0) {
            System.exit(1);
        }
    }

    /** All that can be seen of an object, what its notes and images tell, and all that can be undone. */
    private static String story(GossamerGate gate) {
        StringBuilder s = new StringBuilder();
        addDay(s, gate);
        for (int hour = 0; hour < gate.count(1); hour++) {
            s.append(" wind ").append(gate.wind(hour, 0)).append(gate.wind(hour, 1));
        }
        for (int cell = 0; cell < gate.count(0) * gate.count(0); cell++) {
            s.append(gate.gateIn(cell));
        }
        s.append(" ruled ").append(gate.ruled(0)).append(' ').append(gate.ruled(1));
        while (gate.count(12) > 0) {
            s.append(" undo ").append(gate.undo());
            addDay(s, gate);
        }
        for (int k = 0; k < 4; k++) {
            s.append(" back ").append(gate.back(k)).append(' ').append(gate.count(2)).append(' ').append(gate.count(8));
        }
        return s.append(" rule ").append(gate.rule()).toString();
    }

    private static void addDay(StringBuilder s, GossamerGate gate) {
        for (int what = 0; what < 15; what++) {
            s.append(' ').append(gate.count(what));
        }
        for (int person = 0; person < gate.count(2); person++) {
            s.append(" person");
            for (int what = 0; what < 5; what++) {
                s.append(' ').append(gate.person(person, what));
            }
        }
    }

    /** Puts a text alone on the tape. */
    static GossamerGate put(GossamerGate gate, String text) {
        gate.end(0);
        for (int i = 0; i < text.length(); i += 20) {
            gate.feed(four(text, i), four(text, i + 4), four(text, i + 8), four(text, i + 12), four(text, i + 16));
        }
        gate.end(text.length());
        return gate;
    }

    private static int four(String text, int from) {
        int number = 0;
        for (int i = from; i < from + 4; i++) {
            number = number << 8 | (i < text.length() ? text.charAt(i) & 255 : 0);
        }
        return number;
    }

    static GossamerGate country(String text) {
        GossamerGate gate = new GossamerGate();
        put(gate, text).country();
        return gate;
    }

    /** A country with one rule, which is in force. */
    static GossamerGate ruled(String text, String rule) {
        GossamerGate gate = country(text);
        gate.force(put(gate, rule).rule());
        return gate;
    }

    /** Person 0 is in the air in cell 1, 1 in the sea, 2 to 4 on land in 5, 8 and 3; it is hour 1, and two acts can be undone. */
    static GossamerGate busy() {
        GossamerGate g = ruled("country 3;wind 1 1;wind 2 1;person 0 9 1;person 2 9 1;person 4 5 3;person 8 60 9;person 3 1 2;"
            + "gate 0;gate 2;gate 4", "go 1");
        g.seed(123);
        g.note(0, 0, 0);
        g.hour();
        g.image(1);
        g.save(4, 1);
        put(g, "go 1");
        return g;
    }

    static GossamerGate passed(GossamerGate gate, int hours) {
        for (int i = 0; i < hours; i++) {
            gate.hour();
        }
        return gate;
    }

    /** The answer of country() or rule() with a fault. */
    static int fault(int place, int kind) {
        return -2 - (1 + 8 * place + kind);
    }

    static String times(int n, String text) {
        StringBuilder s = new StringBuilder();
        for (int i = 0; i < n; i++) {
            s.append(text);
        }
        return s.toString();
    }
}
