import java.lang.reflect.InvocationTargetException;
import java.lang.reflect.Method;
import java.lang.reflect.Modifier;
import java.util.Arrays;
import java.util.Comparator;
import java.util.Random;

/** Any calls with any arguments in any state: none may throw, and a second object answers alike. */
public final class WildTest {
    private static final Check CHECK = new Check();
    private static final int[] EDGES = {Integer.MIN_VALUE, Integer.MIN_VALUE + 1, -401, -3, -2, -1, 0, 1, 2, 3, 4, 5, 6, 7, 8, 9, 10, 11, 12,
        13, 15, 20, 21, 40, 41, 48, 49, 50, 60, 61, 63, 64, 100, 101, 400, 401, 999, 1000, 9999, 10000, Integer.MAX_VALUE};
    private static final String[] TEXTS = {
        "country 7;wind 1 1;wind 3 1;wind 2 0;person 0 60 1;person 8 60 2;person 16 60 3;person 24 50 4;person 32 40 5;person 40 30 6;"
            + "gate 0;gate 8;gate 16;gate 24;gate 32;gate 40",
        "country 2;wind 0 3;wind 1 3;wind 2 3;wind 3 3;person 0 9 1;person 1 9 1;person 2 9 1;person 3 9 1;gate 0;gate 1;gate 2;gate 3",
        "country 4" + Check.times(12, ";wind 2 1") + Check.times(6, ";person 1 9 2") + ";gate 1;gate 5;gate 9",
        "country 3", "country 5;person 12 0 9;gate 12", "go 1", "go thread - heavy if not [air > 1 or here > 1]; go hour % 3",
        "go 1 if " + Check.times(10, "not ") + "next / way % force < tangled * 99999 * 99999 * 99999 * 99999", "country 2;gate 9", "go", ""};

    public static void main(String[] args) throws IllegalAccessException {
        Method[] calls = Arrays.stream(GossamerGate.class.getDeclaredMethods()).filter(m -> Modifier.isPublic(m.getModifiers()))
            .sorted(Comparator.comparing(Method::getName)).toArray(Method[]::new);
        CHECK.due("calls of the face", calls.length, 35);
        for (int run = 0; run < 150; run++) {
            play(calls, new Random(run));
        }
        CHECK.finish();
    }

    private static void play(Method[] calls, Random random) throws IllegalAccessException {
        GossamerGate one = new GossamerGate();
        GossamerGate other = new GossamerGate();
        for (int i = 0; i < 200; i++) {
            if (random.nextInt(12) == 0) {
                String text = TEXTS[random.nextInt(TEXTS.length)];
                Check.put(one, text);
                Check.put(other, text);
                if (text.startsWith("c")) {
                    CHECK.due("country", one.country(), other.country());
                } else {
                    CHECK.due("rule", one.rule(), other.rule());
                }
            }
            Method call = calls[random.nextInt(calls.length)];
            Object[] numbers = new Object[call.getParameterCount()];
            for (int k = 0; k < numbers.length; k++) {
                numbers[k] = random.nextInt(3) == 0 ? EDGES[random.nextInt(EDGES.length)] : random.nextInt(7);
            }
            try {
                CHECK.due(call.getName() + Arrays.toString(numbers), (Integer) call.invoke(one, numbers), (Integer) call.invoke(other, numbers));
            } catch (InvocationTargetException e) {
                CHECK.due(call.getName() + Arrays.toString(numbers) + " threw " + e.getCause(), 1, 0);
            }
        }
    }
}
