import java.lang.reflect.Method;
import java.nio.file.Files;
import java.nio.file.Path;
import java.util.ArrayList;
import java.util.List;

/**
 * SENTENCES.md tells the truth: its words stand in the document, in that order, under their headings, and the methods that
 * it names stand in the class and in the tests.
 */
public final class TraceTest {
    private static final int PROMISES = 47;

    public static void main(String[] args) throws Exception {
        String document = Files.readString(Path.of("../shared/DOC.md")).replaceAll("\\s+", " ");
        List<String> headings = new ArrayList<>();
        int at = 0;
        for (String line : Files.readString(Path.of("SENTENCES.md")).split("\n")) {
            if (line.startsWith("## ")) {
                headings.add(line);
                at = Math.max(0, document.indexOf(line.startsWith("## Promise ") ? line + ":" : line));
            } else if (line.startsWith("| ") && !line.startsWith("| the document") && !line.startsWith("| ---")) {
                String[] cells = line.split("\\|");
                String words = cells[1].trim();
                int found = document.indexOf(words, at);
                Check.is("in the document, in its order: " + words, true, () -> found >= 0);
                at = Math.max(at, found + 1);
                for (String place : cells[2].trim().split(", ")) {
                    Check.is("in the class: " + place, true, () -> stands(place, TidePost.class.getName() + "$", ""));
                }
                for (String test : cells[3].trim().split(", ")) {
                    Check.is("a test: " + test, true, () -> stands(test, "", "Test"));
                }
            }
        }
        for (int i = 1; i <= PROMISES; i++) {
            String heading = "## Promise " + i;
            Check.is("a heading: " + heading, true, () -> headings.contains(heading));
        }
        Check.end();
    }

    /** Whether there is a class, or a method of a class, with such a name. */
    private static boolean stands(String place, String ahead, String behind) {
        String[] names = place.split("\\.");
        try {
            boolean whole = names[0].equals(TidePost.class.getName());
            Class<?> looked = whole ? TidePost.class : Class.forName(ahead + names[0] + behind);
            for (Method method : looked.getDeclaredMethods()) {
                if (names.length == 2 && method.getName().equals(names[1])) {
                    return true;
                }
            }
            return names.length == 1;
        } catch (ClassNotFoundException e) {
            return false;
        }
    }
}
