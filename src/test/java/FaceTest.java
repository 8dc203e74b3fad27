import java.io.IOException;
import java.lang.management.ManagementFactory;
import java.lang.reflect.Field;
import java.lang.reflect.Member;
import java.lang.reflect.Method;
import java.lang.reflect.Modifier;
import java.nio.charset.StandardCharsets;
import java.nio.file.Files;
import java.nio.file.Path;
import java.util.Set;
import java.util.TreeSet;
import java.util.regex.Matcher;
import java.util.regex.Pattern;

/** The public face as the document tells it, and those rules of LANGUAGE.md that can be seen from outside. */
public final class FaceTest {
    private static final Check CHECK = new Check();
    private static final String FACE = "feed/5 end/1 country/0 rule/0 force/1 person/2 wind/2 gateIn/1 hour/0 tell/2 save/2 carry/2 "
        + "gate/1 undo/0 ahead/3 goes/1 down/2 gone/3 timing/2 had/3 tangle/1 flock/2 bestGate/2 bestWinds/2 rests/4 ring/1 "
        + "pence/2 note/3 ruled/1 look/2 seed/1 gusts/4 count/1 image/1 back/1";

    public static void main(String[] args) throws IOException {
        face();
        language();
        room();
        CHECK.finish();
    }

    private static void face() {
        Set<String> due = new TreeSet<>(Set.of(FACE.split(" ")));
        Set<String> names = new TreeSet<>();
        for (Method m : GossamerGate.class.getDeclaredMethods()) {
            if (Modifier.isPrivate(m.getModifiers())) {
                names.add(m.getName());
            } else {
                CHECK.due(m.getName() + " is of the face", due.remove(m.getName() + "/" + m.getParameterCount()) ? 1 : 0, 1);
                CHECK.due(m.getName() + " answers an int", m.getReturnType() == int.class ? 1 : 0, 1);
                CHECK.due(m.getName() + " is public", Modifier.isPublic(m.getModifiers()) ? 1 : 0, 1);
            }
        }
        CHECK.due("methods that are missing: " + due, due.size(), 0);
        for (String method : FACE.split(" ")) {
            String name = method.substring(0, method.indexOf('/'));
            CHECK.due("a private method bears the name " + name, names.contains(name) ? 1 : 0, 0);
        }
        for (Field f : GossamerGate.class.getDeclaredFields()) {
            boolean isNone = f.getName().equals("NONE");
            CHECK.due("field " + f.getName(), isPublicOrPrivate(f, isNone) ? 1 : 0, 1);
        }
        CHECK.due("constructors", GossamerGate.class.getConstructors().length, 1);
        for (Class<?> inner : GossamerGate.class.getDeclaredClasses()) {
            CHECK.due(inner + " is static", Modifier.isStatic(inner.getModifiers()) ? 1 : 0, 1);
            int fields = 0;
            for (Field f : inner.getDeclaredFields()) {
                fields += Modifier.isStatic(f.getModifiers()) ? 0 : 1;
            }
            CHECK.due(inner + " has at most twenty fields", Math.max(20, fields), 20);
        }
        CHECK.due("at most twelve classes", Math.max(12, 1 + GossamerGate.class.getDeclaredClasses().length), 12);
    }

    private static boolean isPublicOrPrivate(Member member, boolean isPublic) {
        return isPublic ? Modifier.isPublic(member.getModifiers()) : Modifier.isPrivate(member.getModifiers());
    }

    private static void language() throws IOException {
        String text = Files.readString(Path.of("src/main/java/GossamerGate.java"), StandardCharsets.ISO_8859_1);
        String code = text.replaceAll("(?s)/\\*.*?\\*/", "").replaceAll("//[^\n]*", "");
        Matcher banned = Pattern.compile("\\b(throw|try|catch|synchronized|assert|import|package|new \\w+\\[\\]\\[\\]|toString|"
            + "hashCode|Random|nanoTime|currentTimeMillis|Exact)\\b|->|::").matcher(code);
        while (banned.find()) {
            CHECK.due("the source has " + banned.group(), 1, 0);
        }
        for (int i = 0; i < text.length(); i++) {
            if (text.charAt(i) > 126) {
                CHECK.due("a sign past 126 at " + i, 1, 0);
            }
        }
        int lines = 0;
        for (String line : code.split("\n")) {
            boolean head = line.matches("    (    )?\\S.*\\) \\{") && !line.matches("\\s*(if|for|while|switch|\\}).*");
            lines = head ? 0 : lines + 1;
            if (line.matches("    (    )?\\}")) {
                CHECK.due("a method of some sixty lines", Math.max(60, lines), 60);
                lines = 0;
            }
        }
    }

    /** All calls of a run share one room, so calls make no objects but in the constructor. */
    private static void room() {
        com.sun.management.ThreadMXBean bean = (com.sun.management.ThreadMXBean) ManagementFactory.getThreadMXBean();
        GossamerGate g = Check.country("country 7;wind 1 1;wind 3 1;wind 2 1;wind 0 1;person 0 60 1;person 8 60 2;person 16 60 3;"
            + "person 24 50 4;person 32 40 5;person 40 30 6;gate 0;gate 8;gate 16;gate 24;gate 32;gate 40");
        for (int i = 0; i < 6; i++) {
            Check.put(g, "go thread - heavy * " + i + " if not [air > 3 or next = 2] and hour % 2 = 0; go here").rule();
        }
        g.force(3);
        long before = bean.getCurrentThreadAllocatedBytes();
        dearCalls(g);
        long made = bean.getCurrentThreadAllocatedBytes() - before;
        CHECK.due("bytes made by calls", Math.max(20000, made), 20000);
    }

    private static void dearCalls(GossamerGate g) {
        for (int i = 0; i < 20; i++) {
            g.hour();
            g.save(i % 6, 9);
            g.image(i % 4);
            g.ahead(0, 100, 0);
            g.goes(1);
            g.gone(1, 60, 0);
            g.timing(1, 48);
            g.had(1, 48, 0);
            g.tangle(0);
            g.flock(40, 0);
            g.bestGate(40, 0);
            g.bestWinds(40, 0);
            g.rests(0, 1, 20, 0);
            g.ring(0);
            g.ruled(0);
            g.look(60, 0);
            g.gusts(10, 60, 50, 0);
            g.back(i % 4);
            g.undo();
        }
    }
}
