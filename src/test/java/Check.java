/** Counts the answers that are not as due, and tells texts to an object. */
final class Check {
    private int wrong = 0;

    void due(String what, long got, long want) {
        if (got != want) {
            wrong++;
            System.out.println(what + " answered " + got + ", due is " + want);
        }
    }

    void finish() {
        System.out.println(wrong == 0 ? "all answers are as due" : wrong + " answers are not as due");
        if (wrong != 0) {
            System.exit(1);
        }
    }

    /** Puts a text alone on the tape. */
    static GossamerGate put(GossamerGate gate, String text) {
        gate.end(0);
        for (int i = 0; i < text.length(); i += 20) {
            gate.feed(four(text, i), four(text, i + 4), four(text, i + 8), four(text, i + 12), four(text, i + 16));
        }
        gate.end(text.length());
        return gate;
    }

    private static int four(String text, int from) {
        int number = 0;
        for (int i = from; i < from + 4; i++) {
            number = number << 8 | (i < text.length() ? text.charAt(i) & 255 : 0);
        }
        return number;
    }

    static GossamerGate country(String text) {
        GossamerGate gate = new GossamerGate();
        put(gate, text).country();
        return gate;
    }

    /** The answer of country() or rule() with a fault. */
    static int fault(int place, int kind) {
        return -2 - (1 + 8 * place + kind);
    }

    static String times(int n, String text) {
        StringBuilder s = new StringBuilder();
        for (int i = 0; i < n; i++) {
            s.append(text);
        }
        return s.toString();
    }
}
