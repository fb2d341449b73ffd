/** Promises 1 to 5 and 11 to 21: the network, and what is asked of it. */
public final class NetworkTest {
    public static void main(String[] args) {
        newObject();
        addNode();
        addLink();
        addLinkWrong();
        turn();
        lose();
        loseWrong();
        routes();
        ways();
        underWayAndLost();
        Check.end();
    }

    private static void newObject() {
        TidePost x = new TidePost();
        Check.is("1: clock()", 0, x::clock);
        Check.is("1: nodes()", 0, x::nodes);
        Check.is("1: links()", 0, x::links);
        Check.is("1: connections()", 0, x::connections);
        Check.is("1: lost()", 0, x::lost);
        Check.is("1: underWay()", 0, x::underWay);
        Check.is("1: meanWindow()", 0.0, x::meanWindow);
        Check.is("1: digest()", 51513376156283L, x::digest);
        Check.index("1: isUp(0)", () -> x.isUp(0));
        Check.index("1: stateOf(0)", () -> x.stateOf(0));
        Check.index("1: distance(0, 0)", () -> x.distance(0, 0));
        Check.is("1: pass(50)", 50, () -> x.pass(50));
        Check.is("11: clock()", 50, x::clock);
    }

    private static void addNode() {
        TidePost x = new TidePost();
        for (int i = 0; i < 8; i++) {
            Check.is("2: addNode()", i, x::addNode);
            Check.is("12: nodes()", i + 1, x::nodes);
        }
        Check.state("2: the ninth", x::addNode);
        Check.is("12: nodes()", 8, x::nodes);
        Check.is("15: to itself", 0, () -> x.distance(7, 7));
        Check.is("15: without a link", -1, () -> x.distance(0, 7));
    }

    private static void addLink() {
        TidePost x = Scenes.nodes(8);
        int made = 0;
        for (int a = 0; a < 8 && made < 12; a++) {
            for (int b = a + 1; b < 8 && made < 12; b++) {
                int first = made % 2 == 0 ? a : b;
                int second = made % 2 == 0 ? b : a;
                int delay = made == 0 ? 9 : 1;
                int room = made == 1 ? 20 : 1;
                Check.is("3: addLink()", made, () -> x.addLink(first, second, delay, room));
                made++;
                Check.is("13: links()", made, x::links);
            }
        }
        Check.state("3: the thirteenth", () -> x.addLink(6, 7, 1, 1));
        Check.argument("3: the thirteenth, and delay", () -> x.addLink(6, 7, 0, 1));
        Check.index("3: the thirteenth, and node", () -> x.addLink(6, 8, 0, 1));
        Check.is("13: links()", 12, x::links);
        Check.is("14: isUp(11)", true, () -> x.isUp(11));
        Check.index("14: isUp(12)", () -> x.isUp(12));
        Check.index("14: isUp(-1)", () -> x.isUp(-1));
    }

    private static void addLinkWrong() {
        TidePost x = Scenes.nodes(3);
        Check.index("3: first -1", () -> x.addLink(-1, 1, 0, 0));
        Check.index("3: first 3", () -> x.addLink(3, 1, 1, 1));
        Check.index("3: second -1", () -> x.addLink(1, -1, 1, 1));
        Check.index("3: second 3", () -> x.addLink(1, 3, 1, 1));
        Check.index("3: both 3", () -> x.addLink(3, 3, 1, 1));
        Check.argument("3: both the same", () -> x.addLink(2, 2, 1, 1));
        Check.argument("3: delay 0", () -> x.addLink(0, 1, 0, 1));
        Check.argument("3: delay 10", () -> x.addLink(0, 1, 10, 1));
        Check.argument("3: room 0", () -> x.addLink(0, 1, 1, 0));
        Check.argument("3: room 21", () -> x.addLink(0, 1, 1, 21));
        Check.argument("3: room of many", () -> x.addLink(0, 1, 1, Integer.MAX_VALUE));
        Check.is("13: none was made", 0, x::links);
        Check.is("3: addLink(0, 1, 1, 20)", 0, () -> x.addLink(0, 1, 1, 20));
        Check.state("3: twice", () -> x.addLink(0, 1, 9, 1));
        Check.state("3: twice, turned", () -> x.addLink(1, 0, 9, 1));
        Check.argument("3: twice, and room", () -> x.addLink(1, 0, 9, 0));
        x.turn(0);
        Check.state("3: twice, the first one down", () -> x.addLink(0, 1, 1, 1));
        Check.is("13: links()", 1, x::links);
    }

    private static void turn() {
        TidePost x = Scenes.nodes(2);
        x.addLink(0, 1, 5, 20);
        x.call(0, 1, 1);
        x.call(0, 1, 1);
        x.call(0, 1, 1);
        x.call(1, 0, 1);
        x.pass(2);
        // of way 0 two fly and one is queued, of way 1 one flies
        Check.is("17: queued(0, 0)", 1, () -> x.queued(0, 0));
        Check.is("18: flying(0, 0)", 2, () -> x.flying(0, 0));
        Check.is("18: flying(0, 1)", 1, () -> x.flying(0, 1));
        Check.is("4: turn(0), down", 4, () -> x.turn(0));
        Check.is("14: isUp(0)", false, () -> x.isUp(0));
        Check.is("20: lost()", 4, x::lost);
        Check.is("21: underWay()", 0, x::underWay);
        Check.is("17: queued(0, 0)", 0, () -> x.queued(0, 0));
        Check.is("18: flying(0, 0)", 0, () -> x.flying(0, 0));
        Check.is("19: flown(0, 0)", 2, () -> x.flown(0, 0));
        Check.is("15: distance(0, 1)", -1, () -> x.distance(0, 1));
        Check.is("4: turn(0), up", 0, () -> x.turn(0));
        Check.is("14: isUp(0)", true, () -> x.isUp(0));
        Check.is("15: distance(0, 1)", 5, () -> x.distance(0, 1));
        x.pass(9);
        Check.is("4: what was lost does not arrive", 0, () -> x.flown(0, 1) - 1);
        Check.is("20: lost()", 4, x::lost);
        Check.index("4: turn(1)", () -> x.turn(1));
        Check.index("4: turn(-1)", () -> x.turn(-1));
    }

    private static void lose() {
        TidePost x = Scenes.nodes(2);
        x.addLink(0, 1, 1, 20);
        x.addLink(0, x.addNode(), 1, 20);
        Check.is("5: lose(0, 0, 9)", 0, () -> x.lose(0, 0, 9));
        Check.is("5: lose(0, 0, 2)", 9, () -> x.lose(0, 0, 2));
        Check.is("5: the other way", 0, () -> x.lose(0, 1, 1));
        Check.is("5: the other link", 0, () -> x.lose(1, 0, 0));
        for (int i = 0; i < 3; i++) {
            x.call(0, 1, 1);
        }
        x.pass(1);
        Check.is("5: the first one is lost", 1, x::lost);
        Check.is("5: and takes its turn", 2, () -> x.queued(0, 0));
        x.pass(1);
        Check.is("5: the second one is lost", 2, x::lost);
        Check.is("19: lost ones are not flown", 0, () -> x.flown(0, 0));
        x.pass(1);
        Check.is("5: the third one flies", 1, () -> x.flown(0, 0));
        Check.is("5: none is to be lost any more", 0, () -> x.lose(0, 0, 0));
        x.pass(1);
        Check.is("5: its answer is lost", 3, x::lost);
        Check.is("5: on the other way", 0, () -> x.lose(0, 1, 0));
        x.lose(0, 0, 5);
        x.turn(0);
        x.turn(0);
        Check.is("5: as before it went down", 5, () -> x.lose(0, 0, 0));
    }

    private static void loseWrong() {
        TidePost x = Scenes.nodes(2);
        x.addLink(0, 1, 1, 20);
        Check.index("5: link 1", () -> x.lose(1, 0, 10));
        Check.index("5: link -1", () -> x.lose(-1, 0, 1));
        Check.index("5: way 2", () -> x.lose(0, 2, 10));
        Check.index("5: way -1", () -> x.lose(0, -1, 1));
        Check.argument("5: many 10", () -> x.lose(0, 0, 10));
        Check.argument("5: many -1", () -> x.lose(0, 1, -1));
        Check.is("5: nothing is changed by it", 0, () -> x.lose(0, 0, 0));
    }

    private static void routes() {
        TidePost x = Scenes.nodes(6);
        x.addLink(0, 1, 9, 1); // 0
        x.addLink(2, 0, 1, 1); // 1
        x.addLink(1, 2, 3, 1); // 2
        x.addLink(3, 0, 2, 1); // 3
        x.addLink(3, 1, 2, 1); // 4
        x.addLink(1, 4, 1, 1); // 5
        Check.is("15: distance(0, 1)", 4, () -> x.distance(0, 1));
        Check.is("15: distance(1, 0)", 4, () -> x.distance(1, 0));
        Check.is("15: distance(0, 4)", 5, () -> x.distance(0, 4));
        Check.is("15: distance(0, 0)", 0, () -> x.distance(0, 0));
        Check.is("15: distance(0, 5)", -1, () -> x.distance(0, 5));
        Check.is("16: of two as short the smaller link", 1, () -> x.nextLink(0, 1));
        Check.is("16: and back", 2, () -> x.nextLink(1, 0));
        Check.is("16: farther off", 1, () -> x.nextLink(0, 4));
        Check.is("16: the last link", 5, () -> x.nextLink(1, 4));
        Check.is("16: to the same", -1, () -> x.nextLink(1, 1));
        Check.is("16: without a route", -1, () -> x.nextLink(5, 0));
        x.turn(1);
        Check.is("16: by the other one", 3, () -> x.nextLink(0, 1));
        Check.is("15: as long", 4, () -> x.distance(0, 1));
        x.turn(4);
        Check.is("15: over the long link", 9, () -> x.distance(0, 1));
        Check.is("16: the long link", 0, () -> x.nextLink(0, 4));
        x.turn(1);
        Check.is("16: as links are now", 1, () -> x.nextLink(0, 4));
        x.addLink(4, 0, 1, 1);
        Check.is("15: by the new link", 2, () -> x.distance(0, 1));
        for (int wrong : new int[] {-1, 6}) {
            Check.index("15: from " + wrong, () -> x.distance(wrong, 0));
            Check.index("15: to " + wrong, () -> x.distance(0, wrong));
            Check.index("16: from " + wrong, () -> x.nextLink(wrong, 0));
            Check.index("16: to " + wrong, () -> x.nextLink(0, wrong));
        }
    }

    private static void ways() {
        TidePost x = Scenes.nodes(2);
        x.addLink(1, 0, 3, 2);
        x.call(1, 0, 1);
        x.call(1, 0, 1);
        x.call(1, 0, 1);
        Check.is("17: as many as there is room", 2, () -> x.queued(0, 0));
        Check.is("20: the third one is lost", 1, x::lost);
        x.call(0, 1, 1);
        Check.is("17: the other way", 1, () -> x.queued(0, 1));
        x.pass(1);
        Check.is("17: one took off", 1, () -> x.queued(0, 0));
        Check.is("18: and flies", 1, () -> x.flying(0, 0));
        Check.is("19: and is counted", 1, () -> x.flown(0, 0));
        x.call(1, 0, 1);
        Check.is("17: there is room again", 2, () -> x.queued(0, 0));
        x.pass(2);
        Check.is("18: all fly", 3, () -> x.flying(0, 0));
        x.pass(1);
        // HELLO of way 1 arrived as well, and its answer took off in way 0
        Check.is("18: one arrived, one took off", 3, () -> x.flying(0, 0));
        Check.is("19: its answer flies", 2, () -> x.flown(0, 1));
        x.pass(1);
        Check.is("18: the second one arrived", 2, () -> x.flying(0, 0));
        for (int wrong : new int[] {-1, 1}) {
            Check.index("17: link " + wrong, () -> x.queued(wrong, 0));
            Check.index("18: link " + wrong, () -> x.flying(wrong, 0));
            Check.index("19: link " + wrong, () -> x.flown(wrong, 0));
        }
        for (int wrong : new int[] {-1, 2}) {
            Check.index("17: way " + wrong, () -> x.queued(0, wrong));
            Check.index("18: way " + wrong, () -> x.flying(0, wrong));
            Check.index("19: way " + wrong, () -> x.flown(0, wrong));
        }
    }

    private static void underWayAndLost() {
        TidePost x = Scenes.nodes(3);
        x.addLink(0, 1, 2, 20);
        x.call(0, 1, 1);
        x.call(1, 0, 1);
        Check.is("21: in queues", 2, x::underWay);
        x.pass(1);
        Check.is("21: in flight", 2, x::underWay);
        x.call(0, 1, 1);
        Check.is("21: in both", 3, x::underWay);
        x.call(0, 2, 1);
        Check.is("20: no route", 1, x::lost);
        Check.is("21: what is lost is not under way", 3, x::underWay);
        x.pass(7);
        Check.is("21: none after the answers", 0, x::underWay);
        Check.is("20: the same", 1, x::lost);
    }
}
