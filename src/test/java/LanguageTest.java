import java.lang.management.ManagementFactory;
import java.lang.reflect.Field;
import java.lang.reflect.Method;
import java.lang.reflect.Modifier;
import java.nio.file.Files;
import java.nio.file.Path;
import java.util.ArrayList;
import java.util.List;
import java.util.regex.Matcher;
import java.util.regex.Pattern;

/** What can be looked at of LANGUAGE.md by simple means; the first argument is the class's file. */
public final class LanguageTest {
    private static final String[] NOT_TO_BE_READ = {"package ", "import ", "->", "::", "try", "catch", "finally", "synchronized",
        "assert", "static {", "instanceof", "getMessage", "equals(", "hashCode", "toString", "Exact(", "Object", "System.out",
        "nanoTime", "currentTimeMillis", "Random", "Thread", "while (true)", "for (;;)", "@"};
    /** Of what the rules 4 and 6 list: what the class uses. */
    private static final List<String> OF_THE_LIBRARY = List.of("Math.min", "Math.max", "Math.abs", "Math.floorMod",
        "System.arraycopy");
    private static final List<String> THROWN = List.of("IllegalStateException", "IllegalArgumentException",
        "IndexOutOfBoundsException");
    private static final int LINES_OF_A_METHOD = 60;
    private static final int CLASSES = 12;
    private static final int FIELDS = 20;
    private static final int PARAMETERS = 7;

    public static void main(String[] args) throws Exception {
        String text = Files.readString(Path.of(args[0]));
        String code = text.replaceAll("(?s)/\\*.*?\\*/", "").replaceAll("//[^\n]*", "").replaceAll("\"[^\"]*\"", "\"\"");
        for (String word : NOT_TO_BE_READ) {
            Check.is("without " + word, false, () -> code.contains(word));
        }
        Check.is("ASCII", true, () -> text.chars().allMatch(c -> c == '\n' || c >= ' ' && c < 127));
        Check.is("texts are not joined by +", false, () -> code.matches("(?s).*(\"\\s*\\+|\\+\\s*\").*"));
        libraryAndExceptions(code);
        Check.is("methods are short", true, () -> longestBlock(text) <= LINES_OF_A_METHOD);
        sizes(TidePost.class);
        Check.is("few classes", true, () -> TidePost.class.getDeclaredClasses().length + 1 <= CLASSES);
        for (Class<?> inside : TidePost.class.getDeclaredClasses()) {
            sizes(inside);
            Check.is("static and not public: " + inside, true,
                    () -> Modifier.isStatic(inside.getModifiers()) && !Modifier.isPublic(inside.getModifiers()));
        }
        Check.is("calls make no objects", 0L, LanguageTest::bytesOfCalls);
        Check.end();
    }

    private static void libraryAndExceptions(String code) {
        List<String> own = new ArrayList<>();
        for (Class<?> inside : TidePost.class.getDeclaredClasses()) {
            own.add(inside.getSimpleName());
        }
        Matcher name = Pattern.compile("\\b([A-Z]\\w*)\\.(\\w+)").matcher(code);
        while (name.find()) {
            String used = name.group();
            Check.is("own, or of the library's list: " + used, true,
                    () -> own.contains(used.split("\\.")[0]) || OF_THE_LIBRARY.contains(used));
        }
        Matcher thrown = Pattern.compile("\\bthrow (?:new (\\w+)\\(\"\"\\);)?").matcher(code);
        while (thrown.find()) {
            String exception = String.valueOf(thrown.group(1));
            Check.is("thrown with a written text: " + exception, true, () -> THROWN.contains(exception));
        }
    }

    private static void sizes(Class<?> looked) {
        int fields = 0;
        for (Field field : looked.getDeclaredFields()) {
            boolean fixed = Modifier.isStatic(field.getModifiers());
            fields += fixed ? 0 : 1;
            Check.is("static fields are constants: " + field, true,
                    () -> !fixed || Modifier.isFinal(field.getModifiers()) && field.getType().isPrimitive());
        }
        int many = fields;
        Check.is("fields of " + looked, true, () -> many <= FIELDS);
        for (Method method : looked.getDeclaredMethods()) {
            Check.is("parameters of " + method, true, () -> method.getParameterCount() <= PARAMETERS);
        }
    }

    /** The most lines that a member takes: members stand four signs in, those of the classes inside eight. */
    private static int longestBlock(String text) {
        int longest = 0;
        int start = 0;
        String[] lines = text.split("\n");
        for (int i = 0; i < lines.length; i++) {
            if (lines[i].matches("( {4}| {8})[a-z].*\\{") && !lines[i].contains(" class ")) {
                start = i;
            } else if (lines[i].matches("( {4}| {8})\\}")) {
                longest = Math.max(longest, start == 0 ? 0 : i - start + 1);
                start = 0;
            }
        }
        return longest;
    }

    private static long bytesOfCalls() {
        com.sun.management.ThreadMXBean room = (com.sun.management.ThreadMXBean) ManagementFactory.getThreadMXBean();
        long me = Thread.currentThread().getId();
        long made = 0;
        for (int round = 0; round < 3; round++) {
            TidePost x = new TidePost();
            long before = room.getThreadAllocatedBytes(me);
            long after = room.getThreadAllocatedBytes(me);
            long own = after - before;
            before = room.getThreadAllocatedBytes(me);
            calls(x);
            made = room.getThreadAllocatedBytes(me) - before - own;
        }
        return made;
    }

    private static void calls(TidePost x) {
        for (int i = 0; i < 8; i++) {
            x.addNode();
        }
        for (int i = 0; i < 8; i++) {
            x.addLink(i, (i + 1) % 8, 1 + i % 3, 20);
        }
        for (int i = 0; i < 6; i++) {
            x.call(i, (i + 3) % 8, 16);
            x.give(i, i, 50);
        }
        for (int i = 0; i < 40; i++) {
            x.pass(10);
            x.ticksUntil(i % 6, 200, 60);
            x.lostIn(50);
            x.distanceWithout(i % 8, 0, 5);
            x.turn(i % 8);
            x.turn(i % 8);
            x.meanWindow();
            x.digest();
            if (x.readable(i % 6) > 0) {
                x.read(i % 6, 50);
            }
        }
    }
}
