import java.util.ArrayDeque;
import java.util.ArrayList;
import java.util.Deque;
import java.util.List;
import java.util.Map;
import java.util.TreeMap;
import java.util.TreeSet;

/**
 * The document once more, written as it reads and apart from the class: packets are objects that carry their
 * values, and what would be is found by playing all calls again on a new model.
 */
final class Model {
    enum Kind { HELLO, DATA, BYE, ANSWER }

    private static final class Packet {
        Kind kind;
        int connection;
        int goal;
        int number;
        int value;
        int room;
        int flown;
        int arrives;
    }

    private static final class Link {
        int[] end = new int[2];
        int delay;
        int room;
        boolean up = true;
        List<Deque<Packet>> queue = List.of(new ArrayDeque<>(), new ArrayDeque<>());
        List<Deque<Packet>> flight = List.of(new ArrayDeque<>(), new ArrayDeque<>());
        int[] flown = new int[2];
        int[] toLose = new int[2];
    }

    private static final class Connection {
        int caller;
        int callee;
        int buffer;
        int state;
        List<Integer> pieces = new ArrayList<>();
        boolean closing;
        int base;
        int next;
        int window = 8;
        int threshold = 128;
        int room;
        int like;
        int recover = -1;
        int round;
        int swing;
        int timeout = 12;
        Integer timer;
        Integer measured;
        int measuredAt;
        int tries;
        int sentAgain;
        int wanted;
        TreeSet<Integer> held = new TreeSet<>();
        TreeMap<Integer, Integer> got = new TreeMap<>();
        int read;
    }

    private final List<int[]> log = new ArrayList<>();
    private final List<Link> links = new ArrayList<>();
    private final List<Connection> connections = new ArrayList<>();
    private int nodes;
    private int clock;
    private int lost;
    private int[][] far;

    /** How often each branch that is hard to reach was reached, in all models of the test. */
    static final Map<String, Integer> SEEN = new TreeMap<>();

    private static void seen(String what) {
        SEEN.merge(what, 1, Integer::sum);
    }

    // ---- the network

    int addNode() {
        if (nodes == 8) {
            throw new IllegalStateException();
        }
        log.add(new int[] {0});
        far = null;
        return nodes++;
    }

    int addLink(int first, int second, int delay, int room) {
        node(first);
        node(second);
        argument(first != second && delay >= 1 && delay <= 9 && room >= 1 && room <= 20);
        boolean twice = false;
        for (Link link : links) {
            twice |= link.end[0] == first && link.end[1] == second || link.end[0] == second && link.end[1] == first;
        }
        state(links.size() < 12 && !twice);
        log.add(new int[] {1, first, second, delay, room});
        Link link = new Link();
        link.end = new int[] {first, second};
        link.delay = delay;
        link.room = room;
        links.add(link);
        far = null;
        return links.size() - 1;
    }

    int turn(int link) {
        Link turned = link(link);
        log.add(new int[] {2, link});
        turned.up = !turned.up;
        far = null;
        if (turned.up) {
            return 0;
        }
        int gone = 0;
        for (int way = 0; way < 2; way++) {
            gone += turned.queue.get(way).size() + turned.flight.get(way).size();
            turned.queue.get(way).clear();
            turned.flight.get(way).clear();
        }
        lost += gone;
        return gone;
    }

    int lose(int link, int way, int many) {
        Link lossy = link(link);
        way(way);
        argument(many >= 0 && many <= 9);
        log.add(new int[] {3, link, way, many});
        int before = lossy.toLose[way];
        lossy.toLose[way] = many;
        return before;
    }

    // ---- connections

    int call(int caller, int callee, int buffer) {
        node(caller);
        node(callee);
        argument(caller != callee && buffer >= 1 && buffer <= 16);
        state(connections.size() < 6);
        log.add(new int[] {4, caller, callee, buffer});
        Connection made = new Connection();
        made.caller = caller;
        made.callee = callee;
        made.buffer = buffer;
        made.room = buffer;
        connections.add(made);
        hello(connections.size() - 1);
        made.timer = clock + made.timeout;
        return connections.size() - 1;
    }

    int give(int connection, int value, int many) {
        Connection c = connection(connection);
        argument(many >= 1 && many <= 50);
        state(c.state < 2 && !c.closing && c.pieces.size() + many <= 200);
        log.add(new int[] {5, connection, value, many});
        for (int i = 0; i < many; i++) {
            c.pieces.add(value + i);
        }
        return c.pieces.size();
    }

    int close(int connection) {
        Connection c = connection(connection);
        state(c.state < 2 && !c.closing);
        log.add(new int[] {6, connection});
        c.closing = true;
        return c.pieces.size() + 1 - c.base;
    }

    int read(int connection, int most) {
        Connection c = connection(connection);
        argument(most >= 1 && most <= 50);
        state(readable(connection) > 0);
        log.add(new int[] {7, connection, most});
        int roomAhead = roomOf(c);
        int sum = 0;
        int end = Math.min(c.read + most, c.read + readable(connection));
        while (c.read < end) {
            sum += c.got.get(c.read);
            c.read++;
        }
        if (roomAhead == 0 && roomOf(c) > 0) {
            seen("room told by a read");
            answer(connection);
        }
        return sum;
    }

    int pass(int ticks) {
        argument(ticks >= 1 && ticks <= 50);
        for (int i = 0; i < ticks; i++) {
            tick();
        }
        return clock;
    }

    // ---- asked

    int clock() {
        return clock;
    }

    int nodes() {
        return nodes;
    }

    int links() {
        return links.size();
    }

    boolean isUp(int link) {
        return link(link).up;
    }

    int distance(int from, int to) {
        node(from);
        node(to);
        if (far == null) {
            far = distances(-1);
        }
        return far[from][to];
    }

    int nextLink(int from, int to) {
        node(from);
        node(to);
        if (from == to || distance(from, to) < 0) {
            return -1;
        }
        for (int i = 0; i < links.size(); i++) {
            Link link = links.get(i);
            for (int way = 0; way < 2; way++) {
                if (link.up && link.end[way] == from) {
                    int rest = distance(link.end[1 - way], to);
                    if (rest >= 0 && rest + link.delay == distance(from, to)) {
                        return i;
                    }
                }
            }
        }
        throw new AssertionError("a distance without a link");
    }

    int queued(int link, int way) {
        link(link);
        way(way);
        return links.get(link).queue.get(way).size();
    }

    int flying(int link, int way) {
        link(link);
        way(way);
        return links.get(link).flight.get(way).size();
    }

    int flown(int link, int way) {
        link(link);
        way(way);
        return links.get(link).flown[way];
    }

    int lost() {
        return lost;
    }

    int underWay() {
        int sum = 0;
        for (int i = 0; i < links.size(); i++) {
            sum += queued(i, 0) + queued(i, 1) + flying(i, 0) + flying(i, 1);
        }
        return sum;
    }

    int connections() {
        return connections.size();
    }

    /** What the method with this name answers of a connection. */
    int asked(String name, int connection) {
        Connection c = connection(connection);
        switch (name) {
            case "stateOf": return c.state;
            case "given": return c.pieces.size();
            case "base": return c.base;
            case "next": return c.next;
            case "window": return c.window;
            case "threshold": return c.threshold;
            case "room": return c.room;
            case "like": return c.like;
            case "recover": return c.recover;
            case "round": return c.round;
            case "swing": return c.swing;
            case "timeout": return c.timeout;
            case "timer": return c.timer == null ? -1 : c.timer;
            case "measured": return c.measured == null ? -1 : c.measured;
            case "tries": return c.tries;
            case "sentAgain": return c.sentAgain;
            case "wanted": return c.wanted;
            case "readable": return readable(connection);
            case "hasRead": return c.read;
            default: throw new AssertionError(name);
        }
    }

    boolean holds(int connection, int number) {
        return connection(connection).held.contains(number);
    }

    private int readable(int connection) {
        Connection c = connection(connection);
        int many = 0;
        while (c.read + many < c.wanted && c.got.containsKey(c.read + many)) {
            many++;
        }
        return many;
    }

    double meanWindow() {
        double sum = 0;
        int open = 0;
        for (Connection c : connections) {
            sum += c.state == 1 ? c.window : 0;
            open += c.state == 1 ? 1 : 0;
        }
        return open > 0 ? sum / open : 0;
    }

    // ---- what would be

    int ticksUntil(int connection, int number, int most) {
        connection(connection);
        argument(most >= 1 && most <= 60);
        Model again = again();
        for (int ticks = 0; ticks <= most; ticks++) {
            if (again.connections.get(connection).base >= number) {
                return ticks;
            }
            again.tick();
        }
        return -1;
    }

    int lostIn(int ticks) {
        argument(ticks >= 1 && ticks <= 50);
        Model again = again();
        again.pass(ticks);
        return again.lost - lost;
    }

    int distanceWithout(int link, int from, int to) {
        link(link);
        node(from);
        node(to);
        return distances(link)[from][to];
    }

    long digest() {
        List<Long> all = new ArrayList<>();
        for (int x : new int[] {clock, nodes, links.size(), lost, underWay(), connections.size()}) {
            all.add((long) x);
        }
        for (int i = 0; i < links.size(); i++) {
            all.add(isUp(i) ? 1L : 0L);
            for (int way = 0; way < 2; way++) {
                all.add((long) queued(i, way));
                all.add((long) flying(i, way));
                all.add((long) flown(i, way));
            }
        }
        for (int i = 0; i < connections.size(); i++) {
            for (String name : new String[] {"stateOf", "given", "base", "next", "window", "threshold", "room", "like",
                "recover", "round", "swing", "timeout", "timer", "measured", "tries", "sentAgain", "wanted", "readable",
                "hasRead"}) {
                all.add((long) asked(name, i));
            }
        }
        for (int i = 0; i < nodes; i++) {
            all.add((long) distance(0, i));
        }
        long d = 58043;
        for (long x : all) {
            d = d * 31 + x;
        }
        return d;
    }

    /** A new model on which all calls that changed something were made again. */
    private Model again() {
        Model again = new Model();
        for (int[] c : log) {
            switch (c[0]) {
                case 0: again.addNode(); break;
                case 1: again.addLink(c[1], c[2], c[3], c[4]); break;
                case 2: again.turn(c[1]); break;
                case 3: again.lose(c[1], c[2], c[3]); break;
                case 4: again.call(c[1], c[2], c[3]); break;
                case 5: again.give(c[1], c[2], c[3]); break;
                case 6: again.close(c[1]); break;
                case 7: again.read(c[1], c[2]); break;
                default: again.tick(); break;
            }
        }
        return again;
    }

    // ---- ticks

    private void tick() {
        log.add(new int[] {8});
        clock++;
        for (Link link : links) {
            for (int way = 0; way < 2; way++) {
                Deque<Packet> flight = link.flight.get(way);
                while (!flight.isEmpty() && flight.peekFirst().arrives == clock) {
                    arrived(flight.pollFirst(), link.end[1 - way]);
                }
            }
        }
        for (int i = 0; i < connections.size(); i++) {
            if (connections.get(i).timer != null && connections.get(i).timer == clock) {
                runsOut(i);
            }
        }
        for (int i = 0; i < connections.size(); i++) {
            sends(i);
        }
        for (Link link : links) {
            for (int way = 0; way < 2 && link.up; way++) {
                takesOff(link, way);
            }
        }
    }

    private void takesOff(Link link, int way) {
        Packet first = link.queue.get(way).pollFirst();
        if (first == null) {
            return;
        }
        if (link.toLose[way] > 0) {
            link.toLose[way]--;
            lost++;
            seen("lost as it took off");
            return;
        }
        first.flown++;
        first.arrives = clock + link.delay;
        link.flown[way]++;
        link.flight.get(way).addLast(first);
    }

    private void runsOut(int number) {
        Connection c = connections.get(number);
        c.timer = null;
        c.tries++;
        if (c.tries == 6) {
            seen("broken, was " + c.state);
            c.state = 3;
            return;
        }
        c.timeout = Math.min(60, c.timeout * 2);
        c.measured = null;
        if (c.state == 0) {
            hello(number);
        } else if (c.state == 1) {
            seen("timer ran out, open");
            c.threshold = Math.max(16, (c.next - c.base) * 4);
            c.window = 8;
            c.like = 0;
            c.recover = c.next - 1;
            sendAgain(number, c.base);
        }
        c.timer = clock + c.timeout;
    }

    private void sends(int number) {
        Connection c = connections.get(number);
        while (c.state == 1) {
            boolean isData = c.next < c.pieces.size();
            boolean isBye = c.next == c.pieces.size() && c.closing;
            if (!isData && !isBye) {
                return;
            }
            if ((c.next - c.base) * 8 >= c.window) {
                return;
            }
            if (isData && c.next - c.base >= c.room && c.next != c.base) {
                return;
            }
            if (isData && c.room == 0) {
                seen("sent into no room");
            }
            if (isBye && c.next - c.base >= c.room && c.next != c.base) {
                seen("bye sent into no room");
            }
            thing(number, c.next);
            if (c.measured == null) {
                c.measured = c.next;
                c.measuredAt = clock;
            }
            c.next++;
            if (c.timer == null) {
                c.timer = clock + c.timeout;
            }
        }
    }

    private void arrived(Packet p, int node) {
        if (p.goal != node) {
            send(p, node);
            return;
        }
        Connection c = connections.get(p.connection);
        if (p.kind == Kind.ANSWER) {
            atCaller(p.connection, c, p.number, p.room);
            return;
        }
        if (p.kind != Kind.HELLO) {
            if (p.number < c.wanted || c.held.contains(p.number)) {
                seen("came twice");
            } else if (p.kind == Kind.DATA && p.number >= c.read + c.buffer) {
                seen("lost at the callee");
                lost++;
            } else {
                c.held.add(p.number);
                if (p.kind == Kind.DATA) {
                    c.got.put(p.number, p.value);
                } else if (p.number > c.wanted) {
                    seen("bye held");
                }
                while (c.held.remove(c.wanted)) {
                    c.wanted++;
                }
            }
        }
        answer(p.connection);
    }

    private void atCaller(int number, Connection c, int w, int r) {
        if (c.state == 0) {
            c.state = 1;
            c.tries = 0;
            c.timer = null;
            return;
        }
        if (c.state > 1) {
            seen("answer at state " + c.state);
            return;
        }
        if (w < c.base) {
            seen("old answer");
            return;
        }
        c.tries = 0;
        if (w > c.base) {
            if (c.measured != null && c.measured < w) {
                measure(c);
            }
            c.base = w;
            c.room = r;
            c.like = 0;
            if (w <= c.recover) {
                seen("sent again in recovery");
                sendAgain(number, c.base);
            } else {
                c.recover = -1;
                if (c.window < c.threshold) {
                    c.window += 8;
                } else {
                    seen(64 / c.window > 1 ? "grows by 64 / W" : "grows by 1");
                    c.window += Math.max(1, 64 / c.window);
                }
                if (c.window > 256) {
                    seen("greatest window");
                    c.window = 256;
                }
            }
            c.timer = c.base == c.next ? null : Integer.valueOf(clock + c.timeout);
            if (c.closing && w == c.pieces.size() + 1) {
                seen("closed");
                c.state = 2;
            }
            return;
        }
        if (c.next == c.base) {
            seen("answer to nothing");
            c.room = r;
            return;
        }
        if (r == c.room && r > 0) {
            c.like++;
        } else {
            c.room = r;
            c.like = 0;
        }
        if (c.like == 3 && c.recover == -1) {
            seen("guessed lost");
            c.recover = c.next - 1;
            c.threshold = Math.max(16, (c.next - c.base) * 4);
            c.window = c.threshold;
            sendAgain(number, c.base);
        } else if (c.like > 3) {
            seen("more than 3 like answers");
        }
    }

    private void measure(Connection c) {
        int m = clock - c.measuredAt;
        if (c.round == 0) {
            c.round = 8 * m;
            c.swing = 2 * m;
        } else {
            int e = m - c.round / 8;
            c.swing = c.swing + (e < 0 ? -e : e) - c.swing / 4;
            c.round = c.round + e;
        }
        c.timeout = c.round / 8 + c.swing;
        if (c.timeout < 3) {
            seen("least timeout");
            c.timeout = 3;
        }
        if (c.timeout > 60) {
            seen("greatest timeout");
            c.timeout = 60;
        }
        c.measured = null;
    }

    // ---- packets

    private void hello(int number) {
        Packet p = new Packet();
        p.kind = Kind.HELLO;
        p.connection = number;
        p.goal = connections.get(number).callee;
        send(p, connections.get(number).caller);
    }

    private void thing(int number, int thing) {
        Connection c = connections.get(number);
        Packet p = new Packet();
        p.kind = thing < c.pieces.size() ? Kind.DATA : Kind.BYE;
        p.connection = number;
        p.goal = c.callee;
        p.number = thing;
        p.value = p.kind == Kind.DATA ? c.pieces.get(thing) : 0;
        send(p, c.caller);
    }

    private void sendAgain(int number, int thing) {
        Connection c = connections.get(number);
        c.sentAgain++;
        if (c.measured != null && c.measured == thing) {
            seen("measured one sent again");
            c.measured = null;
        }
        thing(number, thing);
    }

    private void answer(int number) {
        Connection c = connections.get(number);
        Packet p = new Packet();
        p.kind = Kind.ANSWER;
        p.connection = number;
        p.goal = c.caller;
        p.number = c.wanted;
        p.room = roomOf(c);
        send(p, c.callee);
    }

    private int roomOf(Connection c) {
        return Math.max(0, c.read + c.buffer - c.wanted);
    }

    private void send(Packet p, int node) {
        int next = nextLink(node, p.goal);
        if (next < 0) {
            seen("no route");
            lost++;
            return;
        }
        Link link = links.get(next);
        Deque<Packet> queue = link.queue.get(link.end[0] == node ? 0 : 1);
        if (queue.size() >= link.room) {
            seen("queue full");
            lost++;
        } else if (p.flown >= 16) {
            seen("flown 16 times");
            lost++;
        } else {
            queue.addLast(p);
        }
    }

    /** Distances over links that are up, but for one, by way of each node in turn. */
    private int[][] distances(int leftOut) {
        int[][] d = new int[nodes][nodes];
        for (int a = 0; a < nodes; a++) {
            for (int b = 0; b < nodes; b++) {
                d[a][b] = a == b ? 0 : 1000;
            }
        }
        for (int i = 0; i < links.size(); i++) {
            Link link = links.get(i);
            if (link.up && i != leftOut) {
                d[link.end[0]][link.end[1]] = link.delay;
                d[link.end[1]][link.end[0]] = link.delay;
            }
        }
        for (int by = 0; by < nodes; by++) {
            for (int a = 0; a < nodes; a++) {
                for (int b = 0; b < nodes; b++) {
                    d[a][b] = Math.min(d[a][b], d[a][by] + d[by][b]);
                }
            }
        }
        for (int a = 0; a < nodes; a++) {
            for (int b = 0; b < nodes; b++) {
                d[a][b] = d[a][b] >= 1000 ? -1 : d[a][b];
            }
        }
        return d;
    }

    // ---- what is thrown

    private void node(int node) {
        if (node < 0 || node >= nodes) {
            throw new IndexOutOfBoundsException();
        }
    }

    private static void way(int way) {
        if (way != 0 && way != 1) {
            throw new IndexOutOfBoundsException();
        }
    }

    private Link link(int link) {
        if (link < 0 || link >= links.size()) {
            throw new IndexOutOfBoundsException();
        }
        return links.get(link);
    }

    private Connection connection(int connection) {
        if (connection < 0 || connection >= connections.size()) {
            throw new IndexOutOfBoundsException();
        }
        return connections.get(connection);
    }

    private static void argument(boolean fine) {
        if (!fine) {
            throw new IllegalArgumentException();
        }
    }

    private static void state(boolean fine) {
        if (!fine) {
            throw new IllegalStateException();
        }
    }
}
