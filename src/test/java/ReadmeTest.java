import java.lang.reflect.Method;
import java.nio.charset.StandardCharsets;
import java.nio.file.Files;
import java.nio.file.Path;
import java.util.regex.Matcher;
import java.util.regex.Pattern;

/** The calls of README.md answer what is written behind them, feed what is written, and name every method. */
public final class ReadmeTest {
    private static final Check CHECK = new Check();
    private static final Pattern CALL = Pattern.compile("g\\.(\\w+)\\(([^)]*)\\);\\s*//\\s*(\"([^\"]*)\"|(-?\\d+)).*");

    public static void main(String[] args) throws ReflectiveOperationException, java.io.IOException {
        String readme = Files.readString(Path.of("README.md"), StandardCharsets.US_ASCII);
        String[] parts = readme.split("```(java)?");
        CHECK.due("one example", parts.length, 3);
        GossamerGate gate = new GossamerGate();
        int calls = 0;
        for (String line : parts[1].strip().split("\n")) {
            Matcher call = CALL.matcher(line);
            if (call.matches()) {
                play(gate, call, line);
                calls++;
            } else {
                CHECK.due(line, line.equals("GossamerGate g = new GossamerGate();") ? 1 : 0, 1);
            }
        }
        CHECK.due("there are calls", Math.min(10, calls), 10);
        for (Method method : GossamerGate.class.getMethods()) {
            boolean isOfFace = method.getDeclaringClass() == GossamerGate.class;
            CHECK.due("names " + method.getName(), !isOfFace || parts[2].contains("`" + method.getName() + "`") ? 1 : 0, 1);
        }
        CHECK.finish();
    }

    private static void play(GossamerGate gate, Matcher call, String line) throws ReflectiveOperationException {
        String[] texts = call.group(2).isEmpty() ? new String[0] : call.group(2).split(", *");
        Object[] numbers = new Object[texts.length];
        Class<?>[] kinds = new Class<?>[texts.length];
        for (int i = 0; i < texts.length; i++) {
            numbers[i] = Integer.decode(texts[i]);
            kinds[i] = int.class;
        }
        int answer = (Integer) GossamerGate.class.getMethod(call.group(1), kinds).invoke(gate, numbers);
        if (call.group(5) != null) {
            CHECK.due(line, answer, Integer.parseInt(call.group(5)));
            return;
        }
        StringBuilder fed = new StringBuilder();
        for (Object number : numbers) {
            for (int shift = 24; shift >= 0; shift -= 8) {
                fed.append((char) ((Integer) number >> shift & 255));
            }
        }
        CHECK.due(line, fed.toString().replace("\0", "").equals(call.group(4)) ? 1 : 0, 1);
    }
}
