import java.io.PrintWriter;
import java.io.StringWriter;
import java.lang.reflect.Executable;
import java.lang.reflect.Field;
import java.lang.reflect.Modifier;
import java.net.URISyntaxException;
import java.nio.file.Path;
import java.util.ArrayList;
import java.util.HashSet;
import java.util.List;
import java.util.Map;
import java.util.Optional;
import java.util.Set;
import java.util.TreeMap;
import java.util.TreeSet;
import java.util.regex.Matcher;
import java.util.regex.Pattern;
import java.util.spi.ToolProvider;

/** The rules of LANGUAGE.md that can be read from the compiled classes: library, throwing, room, depth of calls, members. */
public final class LanguageTest {
    private static final Check CHECK = new Check();
    /** What the program uses; LANGUAGE.md lists more. */
    private static final Set<String> LIBRARY = Set.of("java/lang/Object.<init>", "java/lang/System.arraycopy", "java/lang/Math.max",
        "java/lang/Math.min", "java/lang/Integer.bitCount", "java/lang/Integer.compare", "java/lang/Long.bitCount",
        "java/lang/String.length", "java/lang/String.charAt");
    private static final Pattern CLASS = Pattern.compile("^\\S*.*\\bclass (GossamerGate[$\\w]*) \\{");
    private static final Pattern HEAD = Pattern.compile("^  (?:\\S.* )?([$\\w]+)\\(.*\\);$");
    private static final Pattern CALL = Pattern.compile("// (?:Interface)?Method (?:([$\\w/]+)\\.)?\"?([<>$\\w]+)\"?:");
    private static final Pattern MAKES = Pattern.compile("^ +\\d+: (new|newarray|anewarray|multianewarray)\\b");
    private static final Pattern BANNED = Pattern.compile("\\b(athrow|invokedynamic|monitorenter|checkcast|putstatic)\\b|Exception table");

    /** Which methods of the program a method calls. */
    private static final Map<String, Set<String>> CALLS = new TreeMap<>();

    public static void main(String[] args) throws URISyntaxException {
        List<Class<?>> classes = new ArrayList<>(List.of(GossamerGate.class.getDeclaredClasses()));
        classes.add(GossamerGate.class);
        for (Class<?> type : classes) {
            members(type);
        }
        Optional<ToolProvider> javap = ToolProvider.findFirst("javap");
        if (javap.isPresent()) {
            read(listing(javap.get(), classes));
            for (String method : CALLS.keySet()) {
                CHECK.due("calls below " + method + " go at most eight deep", Math.max(8, depth(method, new HashSet<>())), 8);
            }
        } else {
            System.out.println("(there is no javap here: the compiled code was not looked at)");
        }
        CHECK.finish();
    }

    private static void members(Class<?> type) {
        Set<String> face = new TreeSet<>();
        for (Executable method : GossamerGate.class.getMethods()) {
            face.add(method.getName());
        }
        List<Executable> methods = new ArrayList<>(List.of(type.getDeclaredMethods()));
        for (Executable method : methods) {
            boolean isOfFace = Modifier.isPublic(method.getModifiers());
            CHECK.due(type + " has " + method.getName(), isOfFace == face.contains(method.getName()) ? 1 : 0, 1);
            CHECK.due(method + ": at most seven parameters", Math.max(7, method.getParameterCount()), 7);
        }
        for (Field field : type.getDeclaredFields()) {
            if (Modifier.isStatic(field.getModifiers())) {
                CHECK.due(field + " is final", Modifier.isFinal(field.getModifiers()) ? 1 : 0, 1);
                boolean isConstant = field.getType().isPrimitive() || field.getType() == String.class;
                CHECK.due(field + " is a constant", isConstant ? 1 : 0, 1);
            }
        }
        CHECK.due(type + " is final", Modifier.isFinal(type.getModifiers()) ? 1 : 0, 1);
    }

    private static String listing(ToolProvider javap, List<Class<?>> classes) throws URISyntaxException {
        Path home = Path.of(GossamerGate.class.getProtectionDomain().getCodeSource().getLocation().toURI());
        List<String> args = new ArrayList<>(List.of("-p", "-c"));
        for (Class<?> type : classes) {
            args.add(home.resolve(type.getName() + ".class").toString());
        }
        StringWriter out = new StringWriter();
        CHECK.due("javap", javap.run(new PrintWriter(out), new PrintWriter(out), args.toArray(new String[0])), 0);
        return out.toString();
    }

    private static void read(String listing) {
        String type = "";
        String method = "";
        for (String line : listing.split("\n")) {
            Matcher name = CLASS.matcher(line);
            Matcher head = HEAD.matcher(line);
            if (name.find()) {
                type = name.group(1);
            } else if (head.matches()) {
                method = type + "." + (head.group(1).equals(type) ? "<init>" : head.group(1));
                CALLS.put(method, new TreeSet<>());
            } else {
                readStep(type, method, line);
            }
        }
        CHECK.due("methods were seen", Math.min(100, CALLS.size()), 100);
    }

    private static void readStep(String type, String method, String line) {
        CHECK.due(method + " has " + line.strip(), BANNED.matcher(line).find() ? 1 : 0, 0);
        if (MAKES.matcher(line).find()) {
            CHECK.due(method + " makes something", method.endsWith(".<init>") ? 1 : 0, 1);
        }
        Matcher call = CALL.matcher(line);
        if (call.find()) {
            String called = (call.group(1) == null ? type : call.group(1)) + "." + call.group(2);
            if (called.startsWith("GossamerGate")) {
                CALLS.get(method).add(called);
            } else {
                CHECK.due(method + " calls " + called, LIBRARY.contains(called) ? 1 : 0, 1);
            }
        }
    }

    /** How many calls stand open at once, each method once: levels of recursion are bounded by an argument of their own. */
    private static int depth(String method, Set<String> open) {
        int most = 0;
        open.add(method);
        for (String called : CALLS.getOrDefault(method, Set.of())) {
            if (!open.contains(called)) {
                most = Math.max(most, depth(called, open));
            }
        }
        open.remove(method);
        return most + 1;
    }
}
