import java.io.IOException;
import java.lang.management.ManagementFactory;
import java.lang.reflect.Constructor;
import java.lang.reflect.Field;
import java.lang.reflect.Method;
import java.lang.reflect.Modifier;
import java.nio.file.Files;
import java.nio.file.Path;
import java.util.Arrays;
import java.util.Set;
import java.util.TreeSet;

/** The face, the rules of the language that can be seen from outside, and the room that the calls of an object take. */
public final class LanguageTest {
    private static final Checks c = new Checks();
    private static final String[] FACE = {
        "int series(int, int, int)", "int tell(int, int)", "int reset(int)",
        "int rule(int, int, int, int, int, boolean)", "int setRule(int, int, int, int)", "int dropRule()",
        "int hush(int, int, int)", "int unhush(int)", "int group(int, int)", "int tick(int)", "int clock()",
        "int many(int)", "int now(int, int)", "int sample(int, int)", "int look(int, int, int)",
        "double growth(int, int)", "int stands(int, int)", "int alert(int, int, int)", "int alertAt(int, int)",
        "int ofHush(int, int)", "int notice(int, int)", "int burningIn(int)", "int beyond(int, int)",
        "int calm(int)", "int loudWithout(int)", "long digest()",
    };
    private static final String[] FORBIDDEN = {
        "catch", "try", "finally", "synchronized", "assert", "->", "::", "float", "import java.util.Random",
        "System.nanoTime", "System.currentTimeMillis", "Exact(", "record ", "var ", "HashMap", "String.format", "print",
    };

    public static void main(String[] args) throws IOException {
        theFace();
        theClassesInside();
        theText();
        theRoom();
        c.end();
    }

    private static void theFace() {
        Class<?> face = HarbourlightMonitor.class;
        c.due("public and final", face.getModifiers(), Modifier.PUBLIC | Modifier.FINAL);
        Set<String> named = new TreeSet<>();
        Set<String> found = new TreeSet<>();
        for (Method method : face.getDeclaredMethods()) {
            if (Modifier.isPublic(method.getModifiers())) {
                found.add(method.getReturnType() + " " + method.getName() + Arrays.toString(method.getParameterTypes()));
                named.add(method.getName());
            }
        }
        Set<String> due = new TreeSet<>();
        for (String method : FACE) {
            due.add(method.replace('(', '[').replace(')', ']'));
        }
        c.due("the face: " + found, found.equals(due) ? 1 : 0, 1);
        for (Method method : face.getDeclaredMethods()) {
            boolean isPublic = Modifier.isPublic(method.getModifiers());
            boolean isHidden = Modifier.isPrivate(method.getModifiers()) && !named.contains(method.getName());
            c.due(method + " is of the face, or private with a name of its own", isPublic || isHidden ? 1 : 0, 1);
            c.due(method + " has at most seven parameters", method.getParameterCount() <= 7 ? 1 : 0, 1);
        }
        for (Field field : face.getDeclaredFields()) {
            c.due(field + " is private", Modifier.isPrivate(field.getModifiers()) ? 1 : 0, 1);
            boolean isConstant = !Modifier.isStatic(field.getModifiers()) || Modifier.isFinal(field.getModifiers());
            c.due(field + " is no static state", isConstant ? 1 : 0, 1);
        }
        for (Constructor<?> constructor : face.getDeclaredConstructors()) {
            c.due("the constructor", constructor.getParameterCount(), 0);
        }
    }

    private static void theClassesInside() {
        Class<?>[] inside = HarbourlightMonitor.class.getDeclaredClasses();
        c.due("at most some twelve classes", inside.length <= 11 ? 1 : 0, 1);
        for (Class<?> one : inside) {
            boolean isHidden = !Modifier.isPublic(one.getModifiers()) && !Modifier.isProtected(one.getModifiers());
            c.due(one + " is hidden and static", isHidden && Modifier.isStatic(one.getModifiers()) ? 1 : 0, 1);
            c.due(one + " has at most some twenty fields", one.getDeclaredFields().length <= 20 ? 1 : 0, 1);
        }
    }

    private static void theText() throws IOException {
        String text = Files.readString(Path.of("src/main/java/HarbourlightMonitor.java"));
        String code = text.replaceAll("(?s)/\\*.*?\\*/", "").replaceAll("//.*", "").replaceAll("\"[^\"]*\"", "\"\"");
        for (String word : FORBIDDEN) {
            c.due("the code bears no " + word, code.contains(word) ? 1 : 0, 0);
        }
        c.due("one library class", code.split("import ", -1).length - 1, 1);
        c.due("that is ArrayList", code.contains("import java.util.ArrayList;") ? 1 : 0, 1);
    }

    private static void theRoom() {
        com.sun.management.ThreadMXBean threads = (com.sun.management.ThreadMXBean) ManagementFactory.getThreadMXBean();
        fill(new HarbourlightMonitor());
        long before = threads.getCurrentThreadAllocatedBytes();
        HarbourlightMonitor x = new HarbourlightMonitor();
        fill(x);
        for (int i = 0; i < 150; i++) {
            x.tick(10);
            x.digest();
            x.burningIn(10);
        }
        long filled = threads.getCurrentThreadAllocatedBytes() - before;
        c.due("bytes of a full object, its TICKS and digests, are few: " + filled, filled < 100_000 ? 1 : 0, 1);
        HarbourlightMonitor y = new HarbourlightMonitor();
        before = threads.getCurrentThreadAllocatedBytes();
        for (int i = 0; i < 256; i++) {
            y.rule(0, 0, 1, 0, 0, true);
            y.dropRule();
        }
        long ruled = threads.getCurrentThreadAllocatedBytes() - before;
        c.due("bytes of 256 RULES are few: " + ruled, ruled < 500_000 ? 1 : 0, 1);
    }

    private static void fill(HarbourlightMonitor x) {
        for (int s = 0; s < 12; s++) {
            x.series(2, 0, s % 6);
        }
        for (int rule = 0; rule < 6; rule++) {
            x.rule(0, 8, 12, 0, -1, true);
        }
        for (int h = 0; h < 5; h++) {
            x.hush(h, -1, 60);
        }
        x.group(2, 5);
        x.tick(10);
        x.digest();
        x.burningIn(10);
    }
}
