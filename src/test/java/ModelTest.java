/** Runs of calls, drawn from written seeds, made on the class and on the model; each answer must be the same. */
public final class ModelTest {
    private static final int RUNS = 1500;
    private static final int CALLS = 512;
    private static final String[] OF_CONNECTION = {"stateOf", "given", "base", "next", "window", "threshold", "room", "like",
        "recover", "round", "swing", "timeout", "timer", "measured", "tries", "sentAgain", "wanted", "readable", "hasRead"};
    /**
     * What the drawn runs must have led to. BoundaryNetworkTest and TransportTest lead to a packet that took off 16 times,
     * and to a window of 256; a TIMEOUT below 3 no run leads to, as ROUND is 16 at least, and SWING 3.
     */
    private static final String[] TO_BE_SEEN = {"answer at state 2", "answer at state 3", "answer to nothing", "broken, was 0",
        "broken, was 1", "bye held", "bye sent into no room", "came twice", "closed", "greatest timeout", "grows by 1",
        "grows by 64 / W", "guessed lost", "lost as it took off", "lost at the callee", "measured one sent again",
        "more than 3 like answers", "no route", "old answer", "queue full", "room told by a read", "sent again in recovery",
        "sent into no room", "timer ran out, open"};

    private long seed;
    private final TidePost post = new TidePost();
    private final Model model = new Model();
    private int calls;
    private int kindOfRun;
    private int wrong;
    private final StringBuilder told = new StringBuilder();

    private ModelTest(int run) {
        seed = run * 2654435761L + 12345;
        kindOfRun = run % 6;
    }

    public static void main(String[] args) {
        for (int run = 0; run < RUNS; run++) {
            int number = run;
            Check.is("run " + run, "", () -> new ModelTest(number).wholeRun());
        }
        for (String what : TO_BE_SEEN) {
            Check.is("seen: " + what, true, () -> Model.SEEN.containsKey(what));
        }
        if (args.length > 0 && args[0].equals("show")) {
            System.out.println(Model.SEEN);
        }
        Check.end();
    }

    private int draw(int below) {
        seed = seed * 6364136223846793005L + 1442695040888963407L;
        return (int) ((seed >>> 33) % below);
    }

    /** Mostly a number that is there, sometimes one just outside. */
    private int number(int many) {
        return draw(25) == 0 ? draw(many + 2) - 1 : many == 0 ? 0 : draw(many);
    }

    private int within(int least, int most) {
        return draw(25) == 0 ? (draw(2) == 0 ? least - 1 : most + 1) : least + draw(most - least + 1);
    }

    private String wholeRun() {
        lay();
        while (calls < CALLS && wrong == 0) {
            step();
            same("digest()", post::digest, model::digest);
        }
        return wrong == 0 ? "" : told.toString();
    }

    private void same(String call, Check.Call got, Check.Call due) {
        if (calls >= CALLS || wrong > 0) {
            return;
        }
        calls++;
        String answer = Check.answerOf(got);
        String wanted = Check.answerOf(due);
        told.append(call).append(" -> ").append(answer).append('\n');
        if (!answer.equals(wanted)) {
            wrong++;
            told.append("due is ").append(wanted).append('\n');
        }
    }

    private void lay() {
        int nodes = kindOfRun == 0 ? 2 : 2 + draw(7);
        for (int i = 0; i < nodes; i++) {
            same("addNode()", post::addNode, model::addNode);
        }
        for (int i = 0; i + 1 < nodes; i++) {
            link(i, i + 1, 1 + draw(kindOfRun == 5 ? 2 : 9), kindOfRun == 1 ? 1 + draw(3) : 4 + draw(17));
        }
        for (int i = draw(10); i > 0 && kindOfRun > 1; i--) {
            link(number(nodes), number(nodes), within(1, 9), within(1, 20));
        }
        for (int i = 1 + draw(5); i > 0; i--) {
            open(draw(nodes), draw(nodes), kindOfRun == 5 ? 16 : 1 + draw(16));
        }
    }

    private void link(int first, int second, int delay, int room) {
        same("addLink(" + first + ", " + second + ", " + delay + ", " + room + ")",
                () -> post.addLink(first, second, delay, room), () -> model.addLink(first, second, delay, room));
    }

    private void open(int caller, int callee, int buffer) {
        same("call(" + caller + ", " + callee + ", " + buffer + ")",
                () -> post.call(caller, callee, buffer), () -> model.call(caller, callee, buffer));
    }

    private void step() {
        int drawn = draw(100);
        if (drawn < 40) {
            play();
        } else if (drawn < 52) {
            int c = number(model.connections());
            int most = within(1, 50);
            same("read(" + c + ", " + most + ")", () -> post.read(c, most), () -> model.read(c, most));
        } else if (drawn < 62) {
            int c = number(model.connections());
            int value = draw(9) == 0 ? Integer.MAX_VALUE - draw(3) : draw(2000) - 1000;
            int many = within(1, 50);
            same("give(" + c + ", " + value + ", " + many + ")", () -> post.give(c, value, many), () -> model.give(c, value, many));
        } else if (drawn < 66) {
            stepOfNetwork();
        } else if (drawn < 67) {
            int c = number(model.connections());
            same("close(" + c + ")", () -> post.close(c), () -> model.close(c));
        } else if (drawn < 69) {
            open(number(model.nodes()), number(model.nodes()), within(1, 16));
        } else if (drawn < 72) {
            askAhead();
        } else if (drawn < 84) {
            askNetwork();
        } else {
            askConnection();
        }
    }

    private void play() {
        int ticks = draw(3) == 0 ? within(1, 50) : 1 + draw(6);
        same("pass(" + ticks + ")", () -> post.pass(ticks), () -> model.pass(ticks));
    }

    private void stepOfNetwork() {
        int link = number(model.links());
        int drawn = draw(10);
        if (drawn < 1) {
            same("addNode()", post::addNode, model::addNode);
        } else if (drawn < 3) {
            link(number(model.nodes()), number(model.nodes()), within(1, 9), within(1, 20));
        } else if (drawn < 5 && kindOfRun != 4) {
            same("turn(" + link + ")", () -> post.turn(link), () -> model.turn(link));
        } else {
            int way = draw(20) == 0 ? draw(5) - 2 : draw(2);
            int many = kindOfRun == 3 ? within(0, 9) : draw(3);
            same("lose(" + link + ", " + way + ", " + many + ")", () -> post.lose(link, way, many),
                    () -> model.lose(link, way, many));
        }
    }

    private void askAhead() {
        int drawn = draw(3);
        if (drawn == 0) {
            int c = number(model.connections());
            int number = draw(60) - 2;
            int most = within(1, 60);
            same("ticksUntil(" + c + ", " + number + ", " + most + ")", () -> post.ticksUntil(c, number, most),
                    () -> model.ticksUntil(c, number, most));
        } else if (drawn == 1) {
            int ticks = within(1, 50);
            same("lostIn(" + ticks + ")", () -> post.lostIn(ticks), () -> model.lostIn(ticks));
        } else {
            int link = number(model.links());
            int from = number(model.nodes());
            int to = number(model.nodes());
            same("distanceWithout(" + link + ", " + from + ", " + to + ")", () -> post.distanceWithout(link, from, to),
                    () -> model.distanceWithout(link, from, to));
        }
    }

    private void askNetwork() {
        int link = number(model.links());
        int way = number(2);
        int from = number(model.nodes());
        int to = number(model.nodes());
        switch (draw(11)) {
            case 0: same("clock()", post::clock, model::clock); break;
            case 1: same("nodes()", post::nodes, model::nodes); break;
            case 2: same("links()", post::links, model::links); break;
            case 3: same("isUp(" + link + ")", () -> post.isUp(link), () -> model.isUp(link)); break;
            case 4: same("distance(" + from + ", " + to + ")", () -> post.distance(from, to), () -> model.distance(from, to)); break;
            case 5: same("nextLink(" + from + ", " + to + ")", () -> post.nextLink(from, to), () -> model.nextLink(from, to)); break;
            case 6: same("queued(" + link + ", " + way + ")", () -> post.queued(link, way), () -> model.queued(link, way)); break;
            case 7: same("flying(" + link + ", " + way + ")", () -> post.flying(link, way), () -> model.flying(link, way)); break;
            case 8: same("flown(" + link + ", " + way + ")", () -> post.flown(link, way), () -> model.flown(link, way)); break;
            case 9: same("lost()", post::lost, model::lost); break;
            default: same("underWay()", post::underWay, model::underWay); break;
        }
    }

    private void askConnection() {
        int c = number(model.connections());
        int drawn = draw(OF_CONNECTION.length + 5);
        if (drawn < OF_CONNECTION.length) {
            String name = OF_CONNECTION[drawn];
            same(name + "(" + c + ")", () -> ask(name, c), () -> model.asked(name, c));
        } else if (drawn == OF_CONNECTION.length) {
            same("connections()", post::connections, model::connections);
        } else if (drawn == OF_CONNECTION.length + 1) {
            same("meanWindow()", post::meanWindow, model::meanWindow);
        } else {
            int number = draw(40) == 0 ? draw(2) * 500 - 1 : wantedOf(c) + draw(10) - 4;
            same("holds(" + c + ", " + number + ")", () -> post.holds(c, number), () -> model.holds(c, number));
        }
    }

    private int wantedOf(int connection) {
        return connection >= 0 && connection < model.connections() ? model.asked("wanted", connection) : 0;
    }

    private int ask(String name, int c) {
        switch (name) {
            case "stateOf": return post.stateOf(c);
            case "given": return post.given(c);
            case "base": return post.base(c);
            case "next": return post.next(c);
            case "window": return post.window(c);
            case "threshold": return post.threshold(c);
            case "room": return post.room(c);
            case "like": return post.like(c);
            case "recover": return post.recover(c);
            case "round": return post.round(c);
            case "swing": return post.swing(c);
            case "timeout": return post.timeout(c);
            case "timer": return post.timer(c);
            case "measured": return post.measured(c);
            case "tries": return post.tries(c);
            case "sentAgain": return post.sentAgain(c);
            case "wanted": return post.wanted(c);
            case "readable": return post.readable(c);
            case "hasRead": return post.hasRead(c);
            default: throw new AssertionError(name);
        }
    }
}
