import java.util.List;

/**
 * All that an object answers, as a text: first what can be asked, then what its further calls come to. None of these calls
 * may throw, but for the document's exceptions where one may be refused.
 */
final class Whole {
    private static final int MOST_CALLS = 512;
    private static final List<String> REFUSALS = List.of("throws.IndexOutOfBoundsException",
            "throws.IllegalArgumentException", "throws.IllegalStateException");

    private final TidePost x;
    private final StringBuilder told = new StringBuilder();
    private int calls;

    private Whole(TidePost x, int callsBefore) {
        this.x = x;
        calls = callsBefore;
    }

    /** Leaves the object as it is after many more calls; they stay within those that an object is used for. */
    static String of(TidePost x, int callsBefore) {
        Whole whole = new Whole(x, callsBefore);
        whole.network();
        for (int c = 0; c < x.connections(); c++) {
            whole.connection(c);
        }
        whole.whatWouldBe();
        whole.further();
        if (whole.calls > MOST_CALLS) {
            throw new AssertionError("an object is used for " + whole.calls + " calls");
        }
        return whole.told.toString();
    }

    /** A call that is always answered. */
    private void ask(String name, Check.Call call) {
        tell(name, call, false);
    }

    /** A call that may be refused, as things stand, but not by the machine. */
    private void attempt(String name, Check.Call call) {
        tell(name, call, true);
    }

    private void tell(String name, Check.Call call, boolean mayBeRefused) {
        calls++;
        String answer = Check.answerOf(call);
        boolean refused = mayBeRefused && REFUSALS.contains(answer);
        if (answer.startsWith("throws.") && !refused) {
            throw new AssertionError(name + ": " + answer);
        }
        told.append(name).append(' ').append(answer).append('\n');
    }

    private void network() {
        ask("clock", x::clock);
        ask("nodes", x::nodes);
        ask("links", x::links);
        ask("lost", x::lost);
        ask("underWay", x::underWay);
        ask("connections", x::connections);
        ask("meanWindow", x::meanWindow);
        ask("digest", x::digest);
        // the bounds of the loops in this class are calls as well
        calls += 6;
        for (int i = 0; i < x.links(); i++) {
            int link = i;
            ask("isUp " + link, () -> x.isUp(link));
            for (int way = 0; way < 2; way++) {
                int w = way;
                ask("queued " + link, () -> x.queued(link, w));
                ask("flying " + link, () -> x.flying(link, w));
                ask("flown " + link, () -> x.flown(link, w));
            }
            calls++;
        }
        for (int i = 0; i < x.nodes(); i++) {
            int node = i;
            ask("distance " + node, () -> x.distance(0, node));
            ask("nextLink " + node, () -> x.nextLink(0, node));
            calls++;
        }
    }

    private void connection(int c) {
        calls++;
        ask("stateOf " + c, () -> x.stateOf(c));
        ask("given " + c, () -> x.given(c));
        ask("base " + c, () -> x.base(c));
        ask("next " + c, () -> x.next(c));
        ask("window " + c, () -> x.window(c));
        ask("threshold " + c, () -> x.threshold(c));
        ask("room " + c, () -> x.room(c));
        ask("like " + c, () -> x.like(c));
        ask("recover " + c, () -> x.recover(c));
        ask("round " + c, () -> x.round(c));
        ask("swing " + c, () -> x.swing(c));
        ask("timeout " + c, () -> x.timeout(c));
        ask("timer " + c, () -> x.timer(c));
        ask("measured " + c, () -> x.measured(c));
        ask("tries " + c, () -> x.tries(c));
        ask("sentAgain " + c, () -> x.sentAgain(c));
        ask("wanted " + c, () -> x.wanted(c));
        ask("readable " + c, () -> x.readable(c));
        ask("hasRead " + c, () -> x.hasRead(c));
        for (int number = 1; number < 4; number++) {
            int held = number;
            ask("holds " + c, () -> x.holds(c, held));
        }
    }

    private void whatWouldBe() {
        ask("lostIn", () -> x.lostIn(50));
        for (int i = 0; i < x.connections(); i++) {
            int c = i;
            ask("ticksUntil " + c, () -> x.ticksUntil(c, 9, 60));
            calls++;
        }
        for (int i = 0; i < x.links(); i++) {
            int link = i;
            ask("distanceWithout " + link, () -> x.distanceWithout(link, 0, x.nodes() - 1));
            calls += 2;
        }
    }

    /** What no question tells: how many are to be lost, the values, who was told to close, and what is in the packets. */
    private void further() {
        for (int ticks : new int[] {1, 2, 4, 8}) {
            ask("pass", () -> x.pass(ticks));
            ask("digest", x::digest);
        }
        for (int i = 0; i < x.links(); i++) {
            int link = i;
            ask("lose " + link, () -> x.lose(link, 0, 0));
            ask("lose " + link, () -> x.lose(link, 1, 0));
            calls++;
        }
        for (int i = 0; i < x.connections(); i++) {
            int c = i;
            attempt("read " + c, () -> x.read(c, 50));
            attempt("give " + c, () -> x.give(c, 77, 1));
            attempt("close " + c, () -> x.close(c));
            calls++;
        }
        ask("pass", () -> x.pass(50));
        ask("digest", x::digest);
        for (int i = 0; i < x.connections(); i++) {
            int c = i;
            attempt("read " + c, () -> x.read(c, 50));
            calls++;
        }
        attempt("addNode", x::addNode);
        attempt("addLink", () -> x.addLink(0, x.nodes() - 1, 1, 1));
        attempt("call", () -> x.call(0, 1, 1));
        calls++;
    }
}
