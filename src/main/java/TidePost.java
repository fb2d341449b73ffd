/** A network, and a transport on it on which one can rely. */
public final class TidePost {
    private static final int MOST_NODES = 8;
    private static final int MOST_LINKS = 12;
    private static final int MOST_DELAY = 9;
    private static final int MOST_ROOM = 20;
    private static final int MOST_TO_LOSE = 9;
    private static final int MOST_HOPS = 16;
    private static final int MOST_CONNECTIONS = 6;
    private static final int MOST_BUFFER = 16;
    private static final int MOST_PIECES = 200;
    private static final int MOST_THINGS = MOST_PIECES + 1;
    private static final int MOST_AT_ONCE = 50;
    private static final int MOST_AHEAD = 60;

    private static final int CALLING = 0;
    private static final int OPEN = 1;
    private static final int CLOSED = 2;
    private static final int BROKEN = 3;

    private static final int THING_EIGHTHS = 8;
    private static final int MOST_WINDOW = 256;
    private static final int FIRST_THRESHOLD = 128;
    private static final int LEAST_THRESHOLD = 16;
    private static final int LIKE_TO_GUESS_LOSS = 3;
    private static final int TRIES_TO_BREAK = 6;
    private static final int FIRST_TIMEOUT = 12;
    private static final int LEAST_TIMEOUT = 3;
    private static final int MOST_TIMEOUT = 60;

    /** No link, no node, no distance, no packet, no number, a timer that is not set. */
    private static final int NONE = -1;

    private final Net net;
    private final Traffic traffic;
    /** A row for what would be: the traffic is copied into it and played on there. */
    private final Traffic ahead;
    /** Of each connection the values of its pieces. Packets carry numbers alone, as a piece never changes. */
    private final int[][] values;

    public TidePost() {
        net = new Net();
        traffic = new Traffic(net);
        ahead = new Traffic(net);
        values = new int[MOST_CONNECTIONS][MOST_PIECES];
    }

    // ---- the network

    public int addNode() throws IllegalStateException {
        if (net.nodes >= MOST_NODES) {
            throw new IllegalStateException("there are 8 nodes");
        }
        return net.layNode();
    }

    public int addLink(int first, int second, int delay, int room)
            throws IndexOutOfBoundsException, IllegalArgumentException, IllegalStateException {
        checkNode(first);
        checkNode(second);
        if (first == second) {
            throw new IllegalArgumentException("both ends are the same");
        }
        checkRange(delay, 1, MOST_DELAY);
        checkRange(room, 1, MOST_ROOM);
        if (net.links >= MOST_LINKS || net.joins(first, second)) {
            throw new IllegalStateException("there are 12 links, or one is between these nodes");
        }
        return net.layLink(first, second, delay, room);
    }

    public int turn(int link) throws IndexOutOfBoundsException {
        checkLink(link);
        net.flip(link);
        return net.up[link] ? 0 : traffic.dropAll(link);
    }

    public int lose(int link, int way, int many) throws IndexOutOfBoundsException, IllegalArgumentException {
        Way lossy = wayOf(link, way);
        checkRange(many, 0, MOST_TO_LOSE);
        int before = lossy.toLose;
        lossy.toLose = many;
        return before;
    }

    // ---- connections

    public int call(int caller, int callee, int buffer)
            throws IndexOutOfBoundsException, IllegalArgumentException, IllegalStateException {
        checkNode(caller);
        checkNode(callee);
        if (caller == callee) {
            throw new IllegalArgumentException("caller and callee are the same");
        }
        checkRange(buffer, 1, MOST_BUFFER);
        if (traffic.made >= MOST_CONNECTIONS) {
            throw new IllegalStateException("there are 6 connections");
        }
        return traffic.connect(caller, callee, buffer);
    }

    public int give(int connection, int value, int many)
            throws IndexOutOfBoundsException, IllegalArgumentException, IllegalStateException {
        Caller caller = callerOf(connection);
        checkRange(many, 1, MOST_AT_ONCE);
        checkTakesThings(caller);
        if (caller.given + many > MOST_PIECES) {
            throw new IllegalStateException("more than 200 pieces");
        }
        for (int i = 0; i < many; i++) {
            values[connection][caller.given] = value + i;
            caller.given++;
        }
        return caller.given;
    }

    public int close(int connection) throws IndexOutOfBoundsException, IllegalStateException {
        Caller caller = callerOf(connection);
        checkTakesThings(caller);
        caller.toldToClose = true;
        return caller.things() - caller.base;
    }

    public int read(int connection, int most)
            throws IndexOutOfBoundsException, IllegalArgumentException, IllegalStateException {
        Connection asked = connectionOf(connection);
        checkRange(most, 1, MOST_AT_ONCE);
        int many = Math.min(most, asked.unread());
        if (many <= 0) {
            throw new IllegalStateException("there is none to be read");
        }
        Callee callee = asked.callee;
        boolean wasFull = callee.spare() == 0;
        int sum = 0;
        for (int i = 0; i < many && callee.read < MOST_PIECES; i++) {
            sum += values[connection][callee.read];
            callee.read++;
        }
        if (wasFull && callee.spare() != 0) {
            traffic.sendAnswer(connection);
        }
        return sum;
    }

    public int pass(int ticks) throws IllegalArgumentException {
        checkRange(ticks, 1, MOST_AT_ONCE);
        for (int i = 0; i < ticks; i++) {
            traffic.tick();
        }
        return traffic.clock;
    }

    // ---- the network, asked

    public int clock() {
        return traffic.clock;
    }

    public int nodes() {
        return net.nodes;
    }

    public int links() {
        return net.links;
    }

    public boolean isUp(int link) throws IndexOutOfBoundsException {
        checkLink(link);
        return net.up[link];
    }

    public int distance(int from, int to) throws IndexOutOfBoundsException {
        checkNode(from);
        checkNode(to);
        return net.distances[to][from];
    }

    public int nextLink(int from, int to) throws IndexOutOfBoundsException {
        checkNode(from);
        checkNode(to);
        return net.linkTowards(from, to);
    }

    public int queued(int link, int way) throws IndexOutOfBoundsException {
        return wayOf(link, way).queued;
    }

    public int flying(int link, int way) throws IndexOutOfBoundsException {
        return wayOf(link, way).flying;
    }

    public int flown(int link, int way) throws IndexOutOfBoundsException {
        return wayOf(link, way).flown;
    }

    public int lost() {
        return traffic.lost;
    }

    public int underWay() {
        int sum = 0;
        for (int i = 0; i < 2 * net.links; i++) {
            sum += traffic.ways[i].queued + traffic.ways[i].flying;
        }
        return sum;
    }

    // ---- connections, asked

    public int connections() {
        return traffic.made;
    }

    public int stateOf(int connection) throws IndexOutOfBoundsException {
        return callerOf(connection).state;
    }

    public int given(int connection) throws IndexOutOfBoundsException {
        return callerOf(connection).given;
    }

    public int base(int connection) throws IndexOutOfBoundsException {
        return callerOf(connection).base;
    }

    public int next(int connection) throws IndexOutOfBoundsException {
        return callerOf(connection).next;
    }

    public int window(int connection) throws IndexOutOfBoundsException {
        return callerOf(connection).window;
    }

    public int threshold(int connection) throws IndexOutOfBoundsException {
        return callerOf(connection).threshold;
    }

    public int room(int connection) throws IndexOutOfBoundsException {
        return callerOf(connection).room;
    }

    public int like(int connection) throws IndexOutOfBoundsException {
        return callerOf(connection).like;
    }

    public int recover(int connection) throws IndexOutOfBoundsException {
        return callerOf(connection).recover;
    }

    public int round(int connection) throws IndexOutOfBoundsException {
        return callerOf(connection).timing.round;
    }

    public int swing(int connection) throws IndexOutOfBoundsException {
        return callerOf(connection).timing.swing;
    }

    public int timeout(int connection) throws IndexOutOfBoundsException {
        return callerOf(connection).timing.timeout;
    }

    public int timer(int connection) throws IndexOutOfBoundsException {
        return callerOf(connection).timer;
    }

    public int measured(int connection) throws IndexOutOfBoundsException {
        return callerOf(connection).timing.measured;
    }

    public int tries(int connection) throws IndexOutOfBoundsException {
        return callerOf(connection).tries;
    }

    public int sentAgain(int connection) throws IndexOutOfBoundsException {
        return callerOf(connection).sentAgain;
    }

    public int wanted(int connection) throws IndexOutOfBoundsException {
        return connectionOf(connection).callee.wanted;
    }

    public boolean holds(int connection, int number) throws IndexOutOfBoundsException {
        boolean[] held = connectionOf(connection).callee.held;
        return number >= 0 && number < held.length && held[number];
    }

    public int readable(int connection) throws IndexOutOfBoundsException {
        return connectionOf(connection).unread();
    }

    public int hasRead(int connection) throws IndexOutOfBoundsException {
        return connectionOf(connection).callee.read;
    }

    public double meanWindow() {
        double sum = 0;
        int open = 0;
        for (int i = 0; i < traffic.made; i++) {
            Caller caller = traffic.all[i].caller;
            if (caller.state == OPEN) {
                sum += caller.window;
                open++;
            }
        }
        return open == 0 ? 0.0 : sum / open;
    }

    // ---- what would be (nothing is changed)

    public int ticksUntil(int connection, int number, int most)
            throws IndexOutOfBoundsException, IllegalArgumentException {
        Caller caller = callerOf(connection);
        checkRange(most, 1, MOST_AHEAD);
        if (caller.base >= number) {
            return 0;
        }
        ahead.copyFrom(traffic);
        for (int ticks = 1; ticks <= most; ticks++) {
            ahead.tick();
            if (ahead.all[connection].caller.base >= number) {
                return ticks;
            }
        }
        return NONE;
    }

    public int lostIn(int ticks) throws IllegalArgumentException {
        checkRange(ticks, 1, MOST_AT_ONCE);
        ahead.copyFrom(traffic);
        for (int i = 0; i < ticks; i++) {
            ahead.tick();
        }
        return ahead.lost - traffic.lost;
    }

    public int distanceWithout(int link, int from, int to) throws IndexOutOfBoundsException {
        checkLink(link);
        checkNode(from);
        checkNode(to);
        net.spread(to, link, net.trial);
        return net.trial[from];
    }

    public long digest() {
        long d = 58043;
        d = d * 31 + clock();
        d = d * 31 + nodes();
        d = d * 31 + links();
        d = d * 31 + lost();
        d = d * 31 + underWay();
        d = d * 31 + connections();
        for (int link = 0; link < net.links; link++) {
            d = digestOfLink(d, link);
        }
        for (int i = 0; i < traffic.made; i++) {
            d = digestOfCallee(digestOfCaller(d, traffic.all[i].caller), traffic.all[i]);
        }
        for (int node = 0; node < net.nodes; node++) {
            d = d * 31 + net.distances[node][0];
        }
        return d;
    }

    private long digestOfLink(long start, int link) {
        long d = start * 31 + (net.up[link] ? 1 : 0);
        for (int way = 0; way < 2; way++) {
            Way asked = traffic.ways[2 * link + way];
            d = d * 31 + asked.queued;
            d = d * 31 + asked.flying;
            d = d * 31 + asked.flown;
        }
        return d;
    }

    private static long digestOfCaller(long start, Caller caller) {
        long d = start * 31 + caller.state;
        d = d * 31 + caller.given;
        d = d * 31 + caller.base;
        d = d * 31 + caller.next;
        d = d * 31 + caller.window;
        d = d * 31 + caller.threshold;
        d = d * 31 + caller.room;
        d = d * 31 + caller.like;
        d = d * 31 + caller.recover;
        d = d * 31 + caller.timing.round;
        d = d * 31 + caller.timing.swing;
        d = d * 31 + caller.timing.timeout;
        d = d * 31 + caller.timer;
        d = d * 31 + caller.timing.measured;
        d = d * 31 + caller.tries;
        return d * 31 + caller.sentAgain;
    }

    private static long digestOfCallee(long start, Connection connection) {
        long d = start * 31 + connection.callee.wanted;
        d = d * 31 + connection.unread();
        return d * 31 + connection.callee.read;
    }

    private void checkNode(int node) {
        if (node < 0 || node >= net.nodes) {
            throw new IndexOutOfBoundsException("no such node");
        }
    }

    private void checkLink(int link) {
        if (link < 0 || link >= net.links) {
            throw new IndexOutOfBoundsException("no such link");
        }
    }

    private static void checkRange(int number, int least, int most) {
        if (number < least || number > most) {
            throw new IllegalArgumentException("a number out of its range");
        }
    }

    private static void checkTakesThings(Caller caller) {
        if (caller.state == CLOSED || caller.state == BROKEN || caller.toldToClose) {
            throw new IllegalStateException("it is closed, broken, or was told to close");
        }
    }

    private Way wayOf(int link, int way) {
        checkLink(link);
        if (way < 0 || way > 1) {
            throw new IndexOutOfBoundsException("no such way");
        }
        return traffic.ways[2 * link + way];
    }

    private Connection connectionOf(int connection) {
        if (connection < 0 || connection >= traffic.made) {
            throw new IndexOutOfBoundsException("no such connection");
        }
        return traffic.all[connection];
    }

    private Caller callerOf(int connection) {
        return connectionOf(connection).caller;
    }

    /** Nodes, links and the routes over them: what no tick changes. */
    private static final class Net {
        int nodes;
        int links;
        final int[] firsts = new int[MOST_LINKS];
        final int[] seconds = new int[MOST_LINKS];
        final int[] delays = new int[MOST_LINKS];
        final int[] rooms = new int[MOST_LINKS];
        final boolean[] up = new boolean[MOST_LINKS];
        /** By goal, then by node: the sum of delays of the route, or NONE. */
        final int[][] distances = new int[MOST_NODES][MOST_NODES];
        /** A row for distances that would be. */
        final int[] trial = new int[MOST_NODES];

        int layNode() {
            nodes++;
            measureRoutes();
            return nodes - 1;
        }

        int layLink(int first, int second, int delay, int room) {
            int link = links;
            firsts[link] = first;
            seconds[link] = second;
            delays[link] = delay;
            rooms[link] = room;
            up[link] = true;
            links++;
            measureRoutes();
            return link;
        }

        void flip(int link) {
            up[link] = !up[link];
            measureRoutes();
        }

        boolean joins(int one, int other) {
            for (int link = 0; link < links; link++) {
                if (farEnd(link, one) == other) {
                    return true;
                }
            }
            return false;
        }

        /** The end of a link that is not this node, or NONE if the link does not touch it. */
        int farEnd(int link, int node) {
            if (firsts[link] == node) {
                return seconds[link];
            }
            return seconds[link] == node ? firsts[link] : NONE;
        }

        /** The next link of the route from a node to a goal, or NONE. */
        int linkTowards(int node, int goal) {
            int[] rest = distances[goal];
            for (int link = 0; link < links; link++) {
                int far = up[link] ? farEnd(link, node) : NONE;
                if (far != NONE && rest[far] != NONE && rest[far] + delays[link] == rest[node]) {
                    return link;
                }
            }
            return NONE;
        }

        private void measureRoutes() {
            for (int goal = 0; goal < nodes; goal++) {
                spread(goal, NONE, distances[goal]);
            }
        }

        /** Fills a row with each node's distance to a goal, over links that are up, but for one left out. */
        void spread(int goal, int leftOut, int[] row) {
            for (int node = 0; node < row.length; node++) {
                row[node] = node == goal ? 0 : NONE;
            }
            boolean changed = true;
            for (int steps = 0; steps < nodes && changed; steps++) {
                changed = false;
                for (int link = 0; link < links; link++) {
                    if (up[link] && link != leftOut) {
                        boolean there = shorten(row, firsts[link], seconds[link], delays[link]);
                        boolean back = shorten(row, seconds[link], firsts[link], delays[link]);
                        changed = changed || there || back;
                    }
                }
            }
        }

        private static boolean shorten(int[] row, int node, int by, int delay) {
            if (row[by] == NONE || row[node] != NONE && row[node] <= row[by] + delay) {
                return false;
            }
            row[node] = row[by] + delay;
            return true;
        }
    }

    /** A packet is one int, so that queues are rows of numbers: hops, connection, kind, number and room. */
    private static final class Packet {
        static final int HELLO = 0;
        static final int DATA = 1;
        static final int BYE = 2;
        static final int ANSWER = 3;
        static final int ONE_HOP = 1 << 18;

        static int of(int connection, int kind, int number, int room) {
            return connection << 15 | kind << 13 | number << 5 | room;
        }

        static int hopsOf(int packet) {
            return packet >> 18;
        }

        static int connectionOf(int packet) {
            return packet >> 15 & 7;
        }

        static int kindOf(int packet) {
            return packet >> 13 & 3;
        }

        static int numberOf(int packet) {
            return packet >> 5 & 255;
        }

        static int roomOf(int packet) {
            return packet & 31;
        }
    }

    /** One way of a link: a queue, which is a ring, and the packets in flight. */
    private static final class Way {
        /** More than the greatest delay, so that a slot is free again when it is due. */
        static final int FLIGHT_SLOTS = MOST_DELAY + 1;

        final int[] queue = new int[MOST_ROOM];
        int head;
        int queued;
        /** By tick of arrival: at most one takes off at a tick, so at most one arrives. */
        final int[] flight = new int[FLIGHT_SLOTS];
        int flying;
        int flown;
        int toLose;

        Way() {
            for (int i = 0; i < FLIGHT_SLOTS; i++) {
                flight[i] = NONE;
            }
        }

        /** Puts a packet at the queue's end; false if there is no room. */
        boolean join(int packet, int room) {
            if (queued >= room || queued >= MOST_ROOM) {
                return false;
            }
            queue[(head + queued) % MOST_ROOM] = packet;
            queued++;
            return true;
        }

        /** Lets the queue's first packet take off, if there is one; true if it is LOST instead. */
        boolean takeOff(int arrival) {
            if (queued == 0) {
                return false;
            }
            int packet = queue[head];
            head = (head + 1) % MOST_ROOM;
            queued--;
            if (toLose > 0) {
                toLose--;
                return true;
            }
            flight[Math.floorMod(arrival, FLIGHT_SLOTS)] = packet + Packet.ONE_HOP;
            flying++;
            flown++;
            return false;
        }

        /** Takes the packet that arrives at this tick out of the flight, or answers NONE. */
        int land(int tick) {
            int slot = Math.floorMod(tick, FLIGHT_SLOTS);
            int packet = flight[slot];
            if (packet != NONE) {
                flight[slot] = NONE;
                flying--;
            }
            return packet;
        }

        /** Drops all packets, and answers how many. */
        int drop() {
            int many = queued + flying;
            queued = 0;
            flying = 0;
            for (int i = 0; i < FLIGHT_SLOTS; i++) {
                flight[i] = NONE;
            }
            return many;
        }

        void copyFrom(Way other) {
            System.arraycopy(other.queue, 0, queue, 0, MOST_ROOM);
            head = other.head;
            queued = other.queued;
            System.arraycopy(other.flight, 0, flight, 0, FLIGHT_SLOTS);
            flying = other.flying;
            flown = other.flown;
            toLose = other.toLose;
        }
    }

    /** A caller's guess of how long an answer takes, and what it waits for that. */
    private static final class Timing {
        int round;
        int swing;
        int timeout;
        int measured;
        int measuredAt;

        void begin() {
            round = 0;
            swing = 0;
            timeout = FIRST_TIMEOUT;
            measured = NONE;
            measuredAt = 0;
        }

        void sent(int number, int clock) {
            if (measured == NONE) {
                measured = number;
                measuredAt = clock;
            }
        }

        /** An answer to a THING that was sent twice would not tell which of the two it answers. */
        void sentTwice(int number) {
            if (measured == number) {
                measured = NONE;
            }
        }

        /** All THINGS below this number are answered. */
        void answered(int below, int clock) {
            if (measured == NONE || measured >= below) {
                return;
            }
            int took = clock - measuredAt;
            if (round == 0) {
                round = 8 * took;
                swing = 2 * took;
            } else {
                int error = took - round / 8;
                swing = swing + Math.abs(error) - swing / 4;
                round = round + error;
            }
            timeout = Math.min(MOST_TIMEOUT, Math.max(LEAST_TIMEOUT, round / 8 + swing));
            measured = NONE;
        }

        void backOff() {
            timeout = Math.min(MOST_TIMEOUT, 2 * timeout);
            measured = NONE;
        }

        void copyFrom(Timing other) {
            round = other.round;
            swing = other.swing;
            timeout = other.timeout;
            measured = other.measured;
            measuredAt = other.measuredAt;
        }
    }

    /** The caller's end of a connection. It tells what is to be sent; the traffic sends it. */
    private static final class Caller {
        int state;
        int given;
        boolean toldToClose;
        int base;
        int next;
        int window;
        int threshold;
        int room;
        int like;
        int recover;
        int timer;
        int tries;
        int sentAgain;
        final Timing timing = new Timing();

        void begin(int buffer, int clock) {
            state = CALLING;
            window = THING_EIGHTHS;
            threshold = FIRST_THRESHOLD;
            room = buffer;
            recover = NONE;
            timing.begin();
            timer = clock + timing.timeout;
        }

        int things() {
            return toldToClose ? given + 1 : given;
        }

        /** Whether the THING next is to be sent now. */
        boolean maySend() {
            int open = next - base;
            if (state != OPEN || next >= things() || open * THING_EIGHTHS >= window) {
                return false;
            }
            boolean isBye = next >= given;
            return isBye || open < room || open == 0;
        }

        /** The THING next goes off. */
        void sent(int clock) {
            timing.sent(next, clock);
            next++;
            if (timer == NONE) {
                timer = clock + timing.timeout;
            }
        }

        /** Takes an ANSWER; true if the THING base is to be sent again. */
        boolean takeAnswer(int wanted, int spare, int clock) {
            if (state == CALLING) {
                state = OPEN;
                tries = 0;
                timer = NONE;
                return false;
            }
            if (state != OPEN || wanted < base) {
                return false;
            }
            tries = 0;
            if (wanted > base) {
                return advance(wanted, spare, clock);
            }
            if (next > base) {
                return repeated(spare);
            }
            room = spare;
            return false;
        }

        private boolean advance(int wanted, int spare, int clock) {
            timing.answered(wanted, clock);
            base = wanted;
            room = spare;
            like = 0;
            boolean again = wanted <= recover;
            if (!again) {
                recover = NONE;
                growWindow();
            }
            timer = base == next ? NONE : clock + timing.timeout;
            if (base > given) {
                // only BYE has a number that no piece has
                state = CLOSED;
            }
            return again;
        }

        private void growWindow() {
            int step = THING_EIGHTHS;
            if (window >= threshold && window > 0) {
                step = Math.max(1, 64 / window);
            }
            window = Math.min(MOST_WINDOW, window + step);
        }

        private boolean repeated(int spare) {
            if (spare == room && spare > 0) {
                like++;
            } else {
                room = spare;
                like = 0;
            }
            if (like != LIKE_TO_GUESS_LOSS || recover != NONE) {
                return false;
            }
            startRecovery();
            window = threshold;
            return true;
        }

        /** The timer runs out; true if HELLO, or the THING base, is to be sent again. */
        boolean runOut(int clock) {
            timer = NONE;
            tries++;
            if (tries >= TRIES_TO_BREAK) {
                state = BROKEN;
                return false;
            }
            timing.backOff();
            if (state == OPEN) {
                startRecovery();
                window = THING_EIGHTHS;
                like = 0;
            }
            timer = clock + timing.timeout;
            return true;
        }

        private void startRecovery() {
            recover = next - 1;
            threshold = Math.max(LEAST_THRESHOLD, (next - base) * 4);
        }

        /** The number of the THING base, which is sent again. */
        int baseAgain() {
            sentAgain++;
            timing.sentTwice(base);
            return base;
        }

        void copyFrom(Caller other) {
            state = other.state;
            given = other.given;
            toldToClose = other.toldToClose;
            base = other.base;
            next = other.next;
            window = other.window;
            threshold = other.threshold;
            room = other.room;
            like = other.like;
            recover = other.recover;
            timer = other.timer;
            tries = other.tries;
            sentAgain = other.sentAgain;
            timing.copyFrom(other.timing);
        }
    }

    /** The callee's end of a connection. */
    private static final class Callee {
        int buffer;
        int wanted;
        int read;
        final boolean[] held = new boolean[MOST_THINGS];

        int spare() {
            return Math.max(0, read + buffer - wanted);
        }

        /** Takes a THING that arrives; false if it is LOST. */
        boolean take(int number, boolean isData) {
            if (number < wanted || number >= held.length || held[number]) {
                return true;
            }
            if (isData && number >= read + buffer) {
                return false;
            }
            held[number] = true;
            while (wanted < held.length && held[wanted]) {
                held[wanted] = false;
                wanted++;
            }
            return true;
        }

        void copyFrom(Callee other) {
            buffer = other.buffer;
            wanted = other.wanted;
            read = other.read;
            System.arraycopy(other.held, 0, held, 0, held.length);
        }
    }

    /** Two nodes, and what each of them keeps of the connection between them. */
    private static final class Connection {
        int callerNode;
        int calleeNode;
        final Caller caller = new Caller();
        final Callee callee = new Callee();

        /** How many pieces can be read; BYE, which is behind all pieces, is none. */
        int unread() {
            return Math.min(callee.wanted, caller.given) - callee.read;
        }

        void copyFrom(Connection other) {
            callerNode = other.callerNode;
            calleeNode = other.calleeNode;
            caller.copyFrom(other.caller);
            callee.copyFrom(other.callee);
        }
    }

    /** What ticks change: the clock, the packets and the connections. */
    private static final class Traffic {
        final Net net;
        /** Way 0 of the link n is at 2 * n, way 1 behind it. */
        final Way[] ways = new Way[2 * MOST_LINKS];
        final Connection[] all = new Connection[MOST_CONNECTIONS];
        int made;
        int clock;
        int lost;

        Traffic(Net net) {
            this.net = net;
            for (int i = 0; i < ways.length; i++) {
                ways[i] = new Way();
            }
            for (int i = 0; i < all.length; i++) {
                all[i] = new Connection();
            }
        }

        int connect(int callerNode, int calleeNode, int buffer) {
            int number = made;
            Connection connection = all[number];
            connection.callerNode = callerNode;
            connection.calleeNode = calleeNode;
            connection.callee.buffer = buffer;
            connection.caller.begin(buffer, clock);
            made++;
            sendHello(number);
            return number;
        }

        /** Loses what is on a link, and answers how many packets that were. */
        int dropAll(int link) {
            int many = ways[2 * link].drop() + ways[2 * link + 1].drop();
            lost += many;
            return many;
        }

        void tick() {
            clock++;
            letArrive();
            letTimersRunOut();
            letCallersSend();
            letTakeOff();
        }

        private void letArrive() {
            for (int link = 0; link < net.links; link++) {
                for (int way = 0; way < 2; way++) {
                    int packet = ways[2 * link + way].land(clock);
                    if (packet != NONE) {
                        arrive(packet, way == 0 ? net.seconds[link] : net.firsts[link]);
                    }
                }
            }
        }

        private void arrive(int packet, int node) {
            int number = Packet.connectionOf(packet);
            if (number >= made) {
                return;
            }
            Connection connection = all[number];
            boolean isAnswer = Packet.kindOf(packet) == Packet.ANSWER;
            int goal = isAnswer ? connection.callerNode : connection.calleeNode;
            if (node != goal) {
                send(packet, node, goal);
            } else if (isAnswer) {
                Caller caller = connection.caller;
                if (caller.takeAnswer(Packet.numberOf(packet), Packet.roomOf(packet), clock)) {
                    sendThing(number, caller.baseAgain());
                }
            } else {
                if (Packet.kindOf(packet) != Packet.HELLO) {
                    boolean isData = Packet.kindOf(packet) == Packet.DATA;
                    lost += connection.callee.take(Packet.numberOf(packet), isData) ? 0 : 1;
                }
                sendAnswer(number);
            }
        }

        private void letTimersRunOut() {
            for (int i = 0; i < made; i++) {
                Caller caller = all[i].caller;
                if (caller.timer == clock && caller.runOut(clock)) {
                    if (caller.state == CALLING) {
                        sendHello(i);
                    } else {
                        sendThing(i, caller.baseAgain());
                    }
                }
            }
        }

        private void letCallersSend() {
            for (int i = 0; i < made; i++) {
                Caller caller = all[i].caller;
                for (int sent = 0; sent < MOST_THINGS && caller.maySend(); sent++) {
                    sendThing(i, caller.next);
                    caller.sent(clock);
                }
            }
        }

        private void letTakeOff() {
            for (int link = 0; link < net.links; link++) {
                if (net.up[link]) {
                    int arrival = clock + net.delays[link];
                    lost += ways[2 * link].takeOff(arrival) ? 1 : 0;
                    lost += ways[2 * link + 1].takeOff(arrival) ? 1 : 0;
                }
            }
        }

        private void sendHello(int number) {
            Connection connection = all[number];
            int packet = Packet.of(number, Packet.HELLO, 0, 0);
            send(packet, connection.callerNode, connection.calleeNode);
        }

        private void sendThing(int number, int thing) {
            Connection connection = all[number];
            int kind = thing < connection.caller.given ? Packet.DATA : Packet.BYE;
            int packet = Packet.of(number, kind, thing, 0);
            send(packet, connection.callerNode, connection.calleeNode);
        }

        void sendAnswer(int number) {
            Connection connection = all[number];
            Callee callee = connection.callee;
            int packet = Packet.of(number, Packet.ANSWER, callee.wanted, callee.spare());
            send(packet, connection.calleeNode, connection.callerNode);
        }

        /** Queues a packet on its way to its goal, or loses it. */
        private void send(int packet, int node, int goal) {
            int link = net.linkTowards(node, goal);
            if (link == NONE || Packet.hopsOf(packet) >= MOST_HOPS) {
                lost++;
                return;
            }
            int way = net.firsts[link] == node ? 0 : 1;
            if (!ways[2 * link + way].join(packet, net.rooms[link])) {
                lost++;
            }
        }

        void copyFrom(Traffic other) {
            for (int i = 0; i < 2 * net.links; i++) {
                ways[i].copyFrom(other.ways[i]);
            }
            for (int i = 0; i < other.made; i++) {
                all[i].copyFrom(other.all[i]);
            }
            made = other.made;
            clock = other.clock;
            lost = other.lost;
        }
    }
}
