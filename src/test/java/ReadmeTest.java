import java.nio.file.Files;
import java.nio.file.Path;
import java.util.ArrayList;
import java.util.List;

/** The run of calls that README.md tells is answered as it says there; the answers were worked out by hand. */
public final class ReadmeTest {
    private final List<String> told = new ArrayList<>();
    private int played;

    public static void main(String[] args) throws Exception {
        new ReadmeTest().play();
        Check.end();
    }

    /**
     * HELLO takes off at 1 and is answered at 5. Of the pieces 0 takes off at 5, 1 and 2 at 9 and 10, as 0 is answered, and
     * 3 and 4 at 13 and 14; BYE takes off at 15, and is answered at 19. Each comes 2 ticks after it took off.
     */
    private void play() throws Exception {
        boolean inside = false;
        for (String line : Files.readString(Path.of("README.md")).split("\n")) {
            inside = inside && !line.equals("```") || line.equals("```java");
            if (inside && line.contains("//")) {
                told.add(line.replaceAll("\\s+", " "));
            }
        }
        TidePost post = new TidePost();
        is("post.addNode();", 0, post::addNode);
        is("post.addNode();", 1, post::addNode);
        is("post.addLink(0, 1, 2, 10);", 0, () -> post.addLink(0, 1, 2, 10));
        is("post.call(0, 1, 8);", 0, () -> post.call(0, 1, 8));
        is("post.give(0, 100, 5);", 5, () -> post.give(0, 100, 5));
        is("post.pass(12);", 12, () -> post.pass(12));
        is("post.readable(0);", 3, () -> post.readable(0));
        is("post.read(0, 50);", 100 + 101 + 102, () -> post.read(0, 50));
        is("post.close(0);", 5, () -> post.close(0));
        is("post.ticksUntil(0, 6, 60);", 7, () -> post.ticksUntil(0, 6, 60));
        is("post.pass(7);", 19, () -> post.pass(7));
        is("post.stateOf(0);", 2, () -> post.stateOf(0));
        is("post.read(0, 50);", 103 + 104, () -> post.read(0, 50));
        is("post.lost();", 0, post::lost);
        Check.is("no other calls are told", played, told::size);
    }

    private void is(String call, int due, Check.Call answered) {
        int number = played++;
        Check.is(call, due, answered);
        Check.is("told in its place: " + call, call + " // " + due, () -> number < told.size() ? told.get(number) : "nothing");
    }
}
