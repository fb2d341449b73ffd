import java.util.ArrayList;
import java.util.List;
import java.util.function.Function;
import java.util.function.Supplier;

/**
 * "A method that throws an exception changes nothing. If several exceptions apply, the one that is named first is thrown."
 * Each refused call is made on an object of its own; what that answers from then on must be what an object answers on
 * which the call was not made.
 */
public final class RefusalTest {
    private static final String INDEX = "throws.IndexOutOfBoundsException";
    private static final String ARGUMENT = "throws.IllegalArgumentException";
    private static final String STATE = "throws.IllegalStateException";
    private static final int LEAST = Integer.MIN_VALUE;
    private static final int GREATEST = Integer.MAX_VALUE;

    /** A call that is refused, on an object that is built first. */
    private static final class Row {
        final String call;
        final String due;
        final Function<TidePost, Object> refused;

        Row(String call, String due, Function<TidePost, Object> refused) {
            this.call = call;
            this.due = due;
            this.refused = refused;
        }
    }

    private final List<Row> rows = new ArrayList<>();

    public static void main(String[] args) {
        RefusalTest nothing = new RefusalTest();
        nothing.nothingThere();
        nothing.run("new", 0, TidePost::new);
        RefusalTest small = new RefusalTest();
        small.indexes(2, 1, 1);
        small.arguments();
        small.run("small", SMALL_CALLS, RefusalTest::small);
        asMeant();
        RefusalTest full = new RefusalTest();
        full.indexes(8, 12, 6);
        full.arguments();
        full.states();
        full.severalApply();
        full.run("full", FULL_CALLS, RefusalTest::full);
        Check.end();
    }

    private void run(String object, int calls, Supplier<TidePost> build) {
        String due = Whole.of(build.get(), calls + 1);
        for (Row row : rows) {
            TidePost x = build.get();
            Check.is(object + ": " + row.call, row.due, () -> row.refused.apply(x));
            Check.is(object + ": behind " + row.call, due, () -> Whole.of(x, calls + 1));
        }
    }

    private void index(String call, Function<TidePost, Object> refused) {
        rows.add(new Row(call, INDEX, refused));
    }

    private void argument(String call, Function<TidePost, Object> refused) {
        rows.add(new Row(call, ARGUMENT, refused));
    }

    private void state(String call, Function<TidePost, Object> refused) {
        rows.add(new Row(call, STATE, refused));
    }

    // ---- the objects

    private static final int SMALL_CALLS = 9;

    /** Two nodes, a link, and a connection that is OPEN, with packets in a queue and in flight; one will be lost. */
    private static TidePost small() {
        TidePost x = new TidePost();
        x.addNode();
        x.addNode();
        x.addLink(0, 1, 2, 3);
        x.call(0, 1, 8);
        x.give(0, 1000, 20);
        x.pass(14);
        x.read(0, 1);
        x.lose(0, 0, 2);
        x.lose(0, 1, 1);
        return x;
    }

    private static final int FULL_CALLS = 47;

    /**
     * As many nodes, links and connections as there can be: 0 is BROKEN, 1 CLOSED, 2 was given 200 pieces, 3 was told to
     * close and is OPEN, 4 is OPEN and can be given 10 pieces, 5 is CALLING.
     */
    private static TidePost full() {
        TidePost x = new TidePost();
        for (int i = 0; i < 8; i++) {
            x.addNode();
        }
        for (int i = 0; i < 8; i++) {
            x.addLink(i, (i + 1) % 8, 1 + i % 3, 5);
        }
        for (int i = 0; i < 4; i++) {
            x.addLink(i, i + 4, 4, 5);
        }
        x.lose(0, 0, 9);
        x.call(0, 1, 4);
        for (int i = 0; i < 5; i++) {
            x.pass(50);
        }
        x.pass(20);
        x.lose(0, 0, 0);
        x.call(2, 3, 4);
        x.close(1);
        x.call(0, 3, 8);
        x.call(5, 1, 8);
        x.call(1, 4, 4);
        x.give(3, 300, 40);
        for (int i = 0; i < 4; i++) {
            x.give(2, 100 * i, 50);
        }
        for (int i = 0; i < 3; i++) {
            x.give(4, 500 * i, 50);
        }
        x.give(4, 9, 40);
        x.close(3);
        x.pass(30);
        x.call(6, 2, 16);
        x.lose(2, 1, 3);
        return x;
    }

    private static void asMeant() {
        TidePost x = small();
        Check.is("small: open, with packets in a queue and in flight", "1 true true", () -> x.stateOf(0) + " "
                + (x.queued(0, 0) > 0) + " " + (x.flying(0, 0) > 0));
        TidePost y = full();
        Check.is("full", "8 12 6", () -> y.nodes() + " " + y.links() + " " + y.connections());
        Check.is("full: states", "3 2 1 1 1 0", () -> y.stateOf(0) + " " + y.stateOf(1) + " " + y.stateOf(2) + " " + y.stateOf(3)
                + " " + y.stateOf(4) + " " + y.stateOf(5));
        Check.is("full: given", "0 0 200 40 190 0", () -> y.given(0) + " " + y.given(1) + " " + y.given(2) + " " + y.given(3)
                + " " + y.given(4) + " " + y.given(5));
        Check.is("full: packets are under way", true, () -> y.underWay() > 5);
    }

    // ---- the calls

    private void nothingThere() {
        indexes(0, 0, 0);
        argument("pass(0)", x -> x.pass(0));
        argument("pass(51)", x -> x.pass(51));
        argument("lostIn(0)", x -> x.lostIn(0));
        argument("lostIn(51)", x -> x.lostIn(51));
    }

    /** The first numbers outside, and the farthest; the other arguments are wrong as well, where they can be. */
    private void indexes(int nodes, int links, int connections) {
        for (int node : new int[] {-1, nodes, LEAST, GREATEST}) {
            indexOfNode(node);
        }
        for (int link : new int[] {-1, links, LEAST, GREATEST}) {
            indexOfLink(link);
        }
        for (int way : new int[] {-1, 2, LEAST, GREATEST}) {
            index("lose(0, " + way + ", 1)", x -> x.lose(0, way, 1));
            index("lose(0, " + way + ", 10)", x -> x.lose(0, way, 10));
            index("queued(0, " + way + ")", x -> x.queued(0, way));
            index("flying(0, " + way + ")", x -> x.flying(0, way));
            index("flown(0, " + way + ")", x -> x.flown(0, way));
        }
        for (int connection : new int[] {-1, connections, LEAST, GREATEST}) {
            indexOfConnection(connection);
            indexOfAskedConnection(connection);
        }
    }

    private void indexOfNode(int node) {
        index("addLink(" + node + ", 1, 1, 1)", x -> x.addLink(node, 1, 1, 1));
        index("addLink(0, " + node + ", 1, 1)", x -> x.addLink(0, node, 1, 1));
        index("addLink(" + node + ", same, 0, 21)", x -> x.addLink(node, node, 0, 21));
        index("call(" + node + ", 1, 1)", x -> x.call(node, 1, 1));
        index("call(0, " + node + ", 1)", x -> x.call(0, node, 1));
        index("call(" + node + ", same, 17)", x -> x.call(node, node, 17));
        index("distance(" + node + ", 0)", x -> x.distance(node, 0));
        index("distance(0, " + node + ")", x -> x.distance(0, node));
        index("nextLink(" + node + ", 0)", x -> x.nextLink(node, 0));
        index("nextLink(0, " + node + ")", x -> x.nextLink(0, node));
        index("distanceWithout(0, " + node + ", 0)", x -> x.distanceWithout(0, node, 0));
        index("distanceWithout(0, 0, " + node + ")", x -> x.distanceWithout(0, 0, node));
    }

    private void indexOfLink(int link) {
        index("turn(" + link + ")", x -> x.turn(link));
        index("lose(" + link + ", 0, 1)", x -> x.lose(link, 0, 1));
        index("lose(" + link + ", 1, -1)", x -> x.lose(link, 1, -1));
        index("lose(" + link + ", 2, 10)", x -> x.lose(link, 2, 10));
        index("isUp(" + link + ")", x -> x.isUp(link));
        index("queued(" + link + ", 0)", x -> x.queued(link, 0));
        index("flying(" + link + ", 0)", x -> x.flying(link, 0));
        index("flown(" + link + ", 0)", x -> x.flown(link, 0));
        index("distanceWithout(" + link + ", 0, 1)", x -> x.distanceWithout(link, 0, 1));
        index("distanceWithout(" + link + ", 0, 9)", x -> x.distanceWithout(link, 0, 9));
    }

    private void indexOfConnection(int c) {
        index("give(" + c + ", 0, 1)", x -> x.give(c, 0, 1));
        index("give(" + c + ", 0, 51)", x -> x.give(c, 0, 51));
        index("close(" + c + ")", x -> x.close(c));
        index("read(" + c + ", 1)", x -> x.read(c, 1));
        index("read(" + c + ", 0)", x -> x.read(c, 0));
        index("holds(" + c + ", 0)", x -> x.holds(c, 0));
        index("ticksUntil(" + c + ", 0, 1)", x -> x.ticksUntil(c, 0, 1));
        index("ticksUntil(" + c + ", 0, 61)", x -> x.ticksUntil(c, 0, 61));
    }

    private void indexOfAskedConnection(int c) {
        index("stateOf(" + c + ")", x -> x.stateOf(c));
        index("given(" + c + ")", x -> x.given(c));
        index("base(" + c + ")", x -> x.base(c));
        index("next(" + c + ")", x -> x.next(c));
        index("window(" + c + ")", x -> x.window(c));
        index("threshold(" + c + ")", x -> x.threshold(c));
        index("room(" + c + ")", x -> x.room(c));
        index("like(" + c + ")", x -> x.like(c));
        index("recover(" + c + ")", x -> x.recover(c));
        index("round(" + c + ")", x -> x.round(c));
        index("swing(" + c + ")", x -> x.swing(c));
        index("timeout(" + c + ")", x -> x.timeout(c));
        index("timer(" + c + ")", x -> x.timer(c));
        index("measured(" + c + ")", x -> x.measured(c));
        index("tries(" + c + ")", x -> x.tries(c));
        index("sentAgain(" + c + ")", x -> x.sentAgain(c));
        index("wanted(" + c + ")", x -> x.wanted(c));
        index("readable(" + c + ")", x -> x.readable(c));
        index("hasRead(" + c + ")", x -> x.hasRead(c));
    }

    /** The first numbers that are too small and too large, and the farthest. In the full object a state applies as well. */
    private void arguments() {
        for (int delay : new int[] {0, 10, -1, LEAST, GREATEST}) {
            argument("addLink(0, 1, " + delay + ", 1)", x -> x.addLink(0, 1, delay, 1));
        }
        for (int room : new int[] {0, 21, -1, LEAST, GREATEST}) {
            argument("addLink(0, 1, 1, " + room + ")", x -> x.addLink(0, 1, 1, room));
        }
        argument("addLink(0, 0, 1, 1)", x -> x.addLink(0, 0, 1, 1));
        argument("call(1, 1, 1)", x -> x.call(1, 1, 1));
        for (int many : new int[] {-1, 10, LEAST, GREATEST}) {
            argument("lose(0, 0, " + many + ")", x -> x.lose(0, 0, many));
            argument("lose(0, 1, " + many + ")", x -> x.lose(0, 1, many));
        }
        for (int buffer : new int[] {0, 17, -1, LEAST, GREATEST}) {
            argument("call(0, 1, " + buffer + ")", x -> x.call(0, 1, buffer));
        }
        for (int wrong : new int[] {0, 51, -1, LEAST, GREATEST}) {
            argument("give(0, 5, " + wrong + ")", x -> x.give(0, 5, wrong));
            argument("read(0, " + wrong + ")", x -> x.read(0, wrong));
            argument("pass(" + wrong + ")", x -> x.pass(wrong));
            argument("lostIn(" + wrong + ")", x -> x.lostIn(wrong));
        }
        for (int most : new int[] {0, 61, -1, LEAST, GREATEST}) {
            argument("ticksUntil(0, 0, " + most + ")", x -> x.ticksUntil(0, 0, most));
            argument("ticksUntil(0, 200, " + most + ")", x -> x.ticksUntil(0, 200, most));
        }
    }

    /** Of the full object, where each of these is refused for one reason. */
    private void states() {
        state("addNode(), the ninth", TidePost::addNode);
        state("addLink(0, 2, 1, 1), the thirteenth", x -> x.addLink(0, 2, 1, 1));
        state("addLink(7, 1, 9, 20), the thirteenth", x -> x.addLink(7, 1, 9, 20));
        state("call(0, 7, 16), the seventh", x -> x.call(0, 7, 16));
        state("give(0, 0, 1), broken", x -> x.give(0, 0, 1));
        state("give(1, 0, 1), closed", x -> x.give(1, 0, 1));
        state("give(2, 0, 1), 201", x -> x.give(2, 0, 1));
        state("give(2, 0, 50), 250", x -> x.give(2, 0, 50));
        state("give(3, 0, 1), told to close", x -> x.give(3, 0, 1));
        state("give(4, 0, 11), 201", x -> x.give(4, 0, 11));
        state("give(4, 0, 50), 240", x -> x.give(4, 0, 50));
        state("close(0), broken", x -> x.close(0));
        state("close(1), closed", x -> x.close(1));
        state("close(3), told to close", x -> x.close(3));
        state("read(0, 1), nothing was given", x -> x.read(0, 1));
        state("read(1, 50), BYE alone", x -> x.read(1, 50));
        state("read(5, 50), nothing came", x -> x.read(5, 50));
    }

    /** Of the full object, where a state applies to each of these as well, and is named behind. */
    private void severalApply() {
        state("addLink(0, 1, 1, 1), the thirteenth, and between these", x -> x.addLink(0, 1, 1, 1));
        argument("addLink(3, 3, 0, 0), the thirteenth", x -> x.addLink(3, 3, 0, 0));
        argument("addLink(1, 0, 1, 21), between these", x -> x.addLink(1, 0, 1, 21));
        index("addLink(8, 1, 10, 1), the thirteenth", x -> x.addLink(8, 1, 10, 1));
        argument("call(4, 4, 1), the seventh", x -> x.call(4, 4, 1));
        index("call(8, 8, 0), the seventh", x -> x.call(8, 8, 0));
        for (int c = 0; c < 4; c++) {
            int refused = c;
            argument("give(" + c + ", 0, 0)", x -> x.give(refused, 0, 0));
            argument("give(" + c + ", 0, 51)", x -> x.give(refused, 0, 51));
        }
        argument("read(1, 0), nothing to be read", x -> x.read(1, 0));
        argument("read(5, 51), nothing to be read", x -> x.read(5, 51));
    }
}
