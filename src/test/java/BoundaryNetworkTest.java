/**
 * The boundaries that the terms 1, 2 and 4 name, and those of the calls of the network: the last that is allowed and the
 * first that is not, the empty and the full case.
 */
public final class BoundaryNetworkTest {
    public static void main(String[] args) {
        noNode();
        eighthNode();
        twelfthLink();
        oneLinkBetweenTwoNodes();
        leastAndGreatestDelay();
        nineInFlight();
        leastRoom();
        greatestRoom();
        roomOnTheWay();
        sixteenthAndSeventeenthFlight();
        noRoute();
        noRouteOnTheWay();
        routeAsLinksAreNow();
        farthestNode();
        turnedWithoutPackets();
        turnedWithFullWays();
        turnedWithNineInFlight();
        turnedLastLink();
        loseNone();
        loseNine();
        loseNothingFromAnEmptyQueue();
        Check.end();
    }

    /** Without a node nothing else is there. */
    private static void noNode() {
        TidePost x = new TidePost();
        Check.index("3: a link without nodes", () -> x.addLink(0, 1, 1, 1));
        Check.index("6: a connection without nodes", () -> x.call(0, 1, 1));
        Check.index("15: distance(0, 0)", () -> x.distance(0, 0));
        Check.index("16: nextLink(0, 0)", () -> x.nextLink(0, 0));
        Check.is("10: pass(1)", 1, () -> x.pass(1));
        Check.is("45: lostIn(50)", 0, () -> x.lostIn(50));
        Check.is("2: the first node", 0, x::addNode);
        Check.is("15: distance(0, 0)", 0, () -> x.distance(0, 0));
        Check.index("15: distance(0, 1)", () -> x.distance(0, 1));
    }

    /** Term 1: "at most 8 NODES"; promise 2: "if there are 8". */
    private static void eighthNode() {
        TidePost x = Scenes.nodes(7);
        Check.index("12: node 7 is not there", () -> x.distance(0, 7));
        Check.is("2: the eighth", 7, x::addNode);
        Check.state("2: the ninth", x::addNode);
        Check.is("12: nodes()", 8, x::nodes);
        x.addLink(6, 7, 1, 1);
        x.call(7, 6, 1);
        x.pass(3);
        Check.is("term 4: the eighth sends and gets packets", 1, () -> x.stateOf(0));
    }

    /** Term 1: "at most 12 LINKS"; promise 3: "if there are 12". */
    private static void twelfthLink() {
        TidePost x = Scenes.nodes(8);
        for (int i = 0; i < 8; i++) {
            x.addLink(i, (i + 1) % 8, 1, 1);
        }
        x.addLink(0, 2, 1, 1);
        x.addLink(2, 4, 1, 1);
        x.addLink(4, 6, 1, 1);
        Check.index("14: link 11 is not there", () -> x.isUp(11));
        Check.is("3: the twelfth", 11, () -> x.addLink(6, 0, 1, 1));
        Check.state("3: the thirteenth", () -> x.addLink(1, 3, 1, 1));
        Check.is("13: links()", 12, x::links);
        Check.is("16: routes lead over it", 11, () -> x.nextLink(6, 0));
        Check.is("5: its ways lose packets", 0, () -> x.lose(11, 1, 1));
        x.call(6, 0, 1);
        x.pass(1);
        Check.is("19: packets fly on it", 1, () -> x.flown(11, 0));
        x.pass(1);
        Check.is("5: the answer is lost there", 1, x::lost);
        Check.is("4: it goes down", 0, () -> x.turn(11));
        Check.is("15: round about", 2, () -> x.distance(6, 0));
    }

    /** Term 1: "no two between the same nodes", whichever end is the first, and be the link down. */
    private static void oneLinkBetweenTwoNodes() {
        TidePost x = Scenes.nodes(3);
        x.addLink(1, 2, 1, 1);
        Check.state("3: the same ends", () -> x.addLink(1, 2, 1, 1));
        Check.state("3: the other way round", () -> x.addLink(2, 1, 1, 1));
        x.turn(0);
        Check.state("3: of a link that is down", () -> x.addLink(2, 1, 1, 1));
        Check.is("3: one end is another", 1, () -> x.addLink(2, 0, 1, 1));
        Check.is("3: both pairs share one node", 2, () -> x.addLink(0, 1, 1, 1));
    }

    /** Term 1: "a delay, 1 to 9"; term 4 (d): "it arrives at the clock + delay". */
    private static void leastAndGreatestDelay() {
        TidePost x = Scenes.nodes(2);
        Check.argument("3: delay 0", () -> x.addLink(0, 1, 0, 1));
        Check.argument("3: delay 10", () -> x.addLink(0, 1, 10, 1));
        for (int delay : new int[] {1, 2, 8, 9}) {
            TidePost y = Scenes.pair(delay);
            y.call(0, 1, 1);
            y.pass(delay);
            Check.is("term 4: in flight, delay " + delay, "1 0", () -> y.flying(0, 0) + " " + y.flown(0, 1));
            y.pass(1);
            Check.is("term 4: arrived and answered, delay " + delay, "0 1", () -> y.flying(0, 0) + " " + y.flown(0, 1));
            Scenes.pass(y, delay - 1);
            Check.is("23: calling, delay " + delay, 0, () -> y.stateOf(0));
            y.pass(1);
            Check.is("23: open, delay " + delay, 1, () -> y.stateOf(0));
        }
    }

    /** 16 pieces are to be sent at once on a way of 9 ticks. */
    private static TidePost sixteenToSend() {
        TidePost x = Scenes.grownFar();
        Check.is("27, 29: at rest", "16 16 129 16", () -> x.base(0) + " " + x.next(0) + " " + x.window(0) + " " + x.room(0));
        x.give(0, 0, 16);
        return x;
    }

    /** The most that can fly: one takes off at each of nine ticks, and as the tenth one does, the first one arrives. */
    private static void nineInFlight() {
        TidePost x = sixteenToSend();
        x.pass(8);
        Check.is("18: eight fly, eight wait", "8 8", () -> x.flying(0, 0) + " " + x.queued(0, 0));
        x.pass(1);
        Check.is("18: nine fly, seven wait", "9 7", () -> x.flying(0, 0) + " " + x.queued(0, 0));
        x.pass(1);
        Check.is("18: one took off as one arrived", "9 6 1", () -> x.flying(0, 0) + " " + x.queued(0, 0) + " " + x.flying(0, 1));
        x.pass(6);
        Check.is("18: the last one took off", "9 0", () -> x.flying(0, 0) + " " + x.queued(0, 0));
        x.pass(9);
        Check.is("18: all arrived", "0 32 0", () -> x.flying(0, 0) + " " + x.wanted(0) + " " + x.lost());
    }

    /** Term 1: "a room, 1 to 20": of a queue for one packet the second one is LOST. */
    private static void leastRoom() {
        TidePost x = Scenes.nodes(2);
        Check.argument("3: room 0", () -> x.addLink(0, 1, 1, 0));
        x.addLink(0, 1, 1, 1);
        x.call(0, 1, 1);
        Check.is("term 1: the first one is queued", "1 0", () -> x.queued(0, 0) + " " + x.lost());
        x.call(0, 1, 1);
        Check.is("term 1: the second one is lost", "1 1", () -> x.queued(0, 0) + " " + x.lost());
        x.call(1, 0, 1);
        Check.is("term 1: each way has its own queue", "1 1 1", () -> x.queued(0, 0) + " " + x.queued(0, 1) + " " + x.lost());
        x.pass(1);
        x.call(0, 1, 1);
        Check.is("term 1: there is room again", "1 1", () -> x.queued(0, 0) + " " + x.lost());
    }

    /** A pair, and on the way 0 of its link, of room 20, a queue of 19; 12 packets did not get into it, one flies. */
    private static TidePost almostFull() {
        TidePost x = Scenes.pair(1);
        Scenes.grow(x, 16);
        Scenes.grow(x, 16);
        x.give(0, 0, 16);
        x.give(1, 0, 16);
        x.pass(1);
        return x;
    }

    /** Term 1: "LOST, if that queue has as many packets as the link has room". */
    private static void greatestRoom() {
        TidePost none = Scenes.nodes(2);
        Check.argument("3: room 21", () -> none.addLink(0, 1, 1, 21));
        TidePost x = almostFull();
        Check.is("term 1: of 32 packets 20 were queued, then one took off", "19 12", () -> x.queued(0, 0) + " " + x.lost());
        Check.is("26: the lost ones count as sent", "32 32", () -> x.next(0) + " " + x.next(1));
        x.call(0, 1, 1);
        Check.is("term 1: the twentieth one is queued", "20 12", () -> x.queued(0, 0) + " " + x.lost());
        x.call(0, 1, 1);
        Check.is("term 1: the next one is lost", "20 13", () -> x.queued(0, 0) + " " + x.lost());
        x.call(1, 0, 1);
        Check.is("term 1: the other way is empty", "1 13", () -> x.queued(0, 1) + " " + x.lost());
    }

    /** The same holds for a packet that goes on at a node that is not its goal. */
    private static void roomOnTheWay() {
        TidePost x = Scenes.nodes(4);
        x.addLink(0, 1, 1, 20);
        x.addLink(2, 1, 1, 20);
        x.addLink(1, 3, 1, 1);
        x.call(2, 3, 1);
        x.call(0, 3, 1);
        x.pass(1);
        Check.is("term 1: both fly", "1 1 0", () -> x.flying(0, 0) + " " + x.flying(1, 0) + " " + x.lost());
        x.pass(1);
        Check.is("term 4: the one of the link 0 came first, the other one is lost", "1 1", () -> x.flown(2, 0) + " " + x.lost());
        x.pass(3);
        Check.is("23: which it was", "0 1", () -> x.stateOf(0) + " " + x.stateOf(1));
    }

    /**
     * Term 1: "if it has flown over 16 links already". HELLO, from the node 0 to the node 2, is sent to and fro between
     * the nodes 0 and 1: whenever it flies to one of them, that one's link to the node 2 goes down, and the other's up.
     */
    private static void sixteenthAndSeventeenthFlight() {
        TidePost x = toAndFro(15);
        Check.is("19: fifteen flights", "15 1", () -> x.flown(0, 0) + x.flown(0, 1) + " " + x.lost());
        x.pass(1);
        Check.is("term 1: the sixteenth one", "1 1", () -> x.flying(0, 1) + " " + x.lost());
        x.pass(1);
        Check.is("term 1: the seventeenth one is none", "16 2", () -> x.flown(0, 0) + x.flown(0, 1) + " " + x.lost());

        TidePost y = toAndFro(15);
        // now the link from the node 1 to the goal is left up
        y.turn(1);
        y.turn(2);
        y.pass(1);
        Check.is("term 1: to its goal it takes off as the sixteenth time", "1 1", () -> y.flying(2, 0) + " " + y.lost());
        y.pass(1);
        Check.is("term 1: at its goal it may have flown 16 times", "1 1", () -> y.flown(2, 1) + " " + y.lost());
        y.pass(2);
        Check.is("term 1: its answer is another packet", "1 1", () -> y.stateOf(0) + " " + y.lost());
    }

    private static TidePost toAndFro(int flights) {
        TidePost x = Scenes.nodes(3);
        x.addLink(0, 1, 1, 20);
        x.addLink(0, 2, 1, 20);
        x.addLink(1, 2, 1, 20);
        x.turn(1);
        x.call(0, 2, 1);
        for (int i = 0; i < flights; i++) {
            // at the tick 12 HELLO is sent again: that one is lost as its link goes down
            x.pass(1);
            x.turn(1);
            x.turn(2);
        }
        return x;
    }

    /** Term 1: "LOST, if there is no route", as HELLO is sent at once. */
    private static void noRoute() {
        TidePost x = Scenes.nodes(3);
        x.addLink(0, 1, 1, 1);
        Check.is("6: it is made all the same", 0, () -> x.call(0, 2, 1));
        Check.is("20, 21: HELLO is lost", "1 0", () -> x.lost() + " " + x.underWay());
        Check.is("35: the timer is set", "0 12", () -> x.stateOf(0) + " " + x.timer(0));
        x.turn(0);
        x.call(0, 1, 1);
        Check.is("20, 21: HELLO is lost, as the link is down", "2 0", () -> x.lost() + " " + x.underWay());
    }

    /** Links are looked at as a packet is to go on, not before. */
    private static void noRouteOnTheWay() {
        TidePost x = Scenes.line(3, 3);
        x.call(0, 2, 1);
        x.pass(1);
        Check.is("4: nothing is on that link", 0, () -> x.turn(1));
        x.pass(2);
        Check.is("20: it flies still", "0 1", () -> x.lost() + " " + x.underWay());
        x.pass(1);
        Check.is("20: at the node 1 it is lost", "1 0", () -> x.lost() + " " + x.underWay());
        TidePost y = Scenes.line(3, 3);
        y.call(0, 2, 1);
        y.pass(1);
        y.turn(1);
        y.pass(2);
        y.turn(1);
        y.pass(1);
        Check.is("term 1: the link came back in time", "0 1", () -> y.lost() + " " + y.flown(1, 0));
    }

    /** Term 1: "It is always as links are now." */
    private static void routeAsLinksAreNow() {
        TidePost x = Scenes.line(3, 1);
        x.call(0, 2, 1);
        x.pass(1);
        x.addNode();
        x.addLink(1, 3, 1, 1);
        x.addLink(3, 2, 1, 1);
        Check.is("16: as before", 1, () -> x.nextLink(1, 2));
        x.turn(1);
        Check.is("16: round about", 2, () -> x.nextLink(1, 2));
        x.pass(1);
        Check.is("term 1: what was sent before goes round about", "0 1", () -> x.flown(1, 0) + " " + x.flown(2, 0));
    }

    /** The longest route that there can be. */
    private static void farthestNode() {
        TidePost x = Scenes.line(8, 9);
        Check.is("15: 7 * 9", "63 63", () -> x.distance(0, 7) + " " + x.distance(7, 0));
        Check.is("16: its ends", "0 6", () -> x.nextLink(0, 7) + " " + x.nextLink(7, 0));
        Check.is("46: without one", -1, () -> x.distanceWithout(3, 0, 7));
        x.addLink(7, 0, 9, 1);
        Check.is("15: a short one", "9 36", () -> x.distance(0, 7) + " " + x.distance(0, 4));
        Check.is("16: both ways round are as short", "0 3 4", () -> x.nextLink(0, 4) + " " + x.nextLink(4, 0) + " "
                + x.nextLink(5, 1));
        Check.is("46: the long one again", 63, () -> x.distanceWithout(7, 0, 7));
    }

    /** Term 1: "If a link goes down, all packets [..] are LOST": none is 0, and as one comes up none can be. */
    private static void turnedWithoutPackets() {
        TidePost x = Scenes.pair(1);
        Check.is("4: down", 0, () -> x.turn(0));
        x.call(0, 1, 1);
        Check.is("17: none gets into a queue", "0 1", () -> x.queued(0, 0) + " " + x.lost());
        x.pass(11);
        Check.is("4: up", 0, () -> x.turn(0));
        Check.is("20: the one that was lost", "1 0", () -> x.lost() + " " + x.underWay());
        x.pass(3);
        Check.is("23: the next HELLO goes", 1, () -> x.stateOf(0));
    }

    private static void turnedWithFullWays() {
        TidePost x = almostFull();
        x.call(0, 1, 1);
        x.call(1, 0, 1);
        Check.is("21: 20 and 1 on one way, 1 on the other one", 22, x::underWay);
        Check.is("4: all are lost", 22, () -> x.turn(0));
        Check.is("20: lost()", 34, x::lost);
        Check.is("17, 18: both ways are empty", "0 0 0 0 0", () -> x.queued(0, 0) + " " + x.queued(0, 1) + " " + x.flying(0, 0)
                + " " + x.flying(0, 1) + " " + x.underWay());
        Check.is("4: nothing comes back", "0 0", () -> x.turn(0) + " " + x.underWay());
        x.pass(1);
        Check.is("4: nothing arrives", "0 16", () -> x.underWay() + " " + x.wanted(0));
    }

    /** Each one in flight is LOST, at whatever tick it would have arrived. */
    private static void turnedWithNineInFlight() {
        for (int ticks = 9; ticks <= 12; ticks++) {
            TidePost x = sixteenToSend();
            x.pass(ticks);
            int answers = ticks - 9;
            int wanted = x.wanted(0);
            Check.is("4: all 16 or their answers are lost", 16, () -> x.turn(0));
            Check.is("4: up again", 0, () -> x.turn(0));
            x.pass(10);
            Check.is("4: none arrives, of " + (16 - answers) + " and " + answers + " answers", "16 0", () -> x.base(0) + " "
                    + (x.wanted(0) - wanted));
            Check.is("20, 21: lost and under way", "16 0", () -> x.lost() + " " + x.underWay());
        }
    }

    /** Both ways of the last of twelve links, and no others. */
    private static void turnedLastLink() {
        TidePost x = Scenes.nodes(8);
        for (int i = 0; i < 8; i++) {
            x.addLink(i, (i + 1) % 8, 9, 5);
        }
        for (int i = 0; i < 4; i++) {
            x.addLink(i, i + 4, 9, 5);
        }
        x.call(3, 7, 1);
        x.call(7, 3, 1);
        x.call(6, 2, 1);
        x.call(0, 1, 1);
        x.pass(1);
        x.call(3, 7, 1);
        x.call(7, 3, 1);
        Check.is("18, 17: on both ways of the link 11", "1 1 1 1", () -> x.flying(11, 0) + " " + x.queued(11, 0) + " "
                + x.flying(11, 1) + " " + x.queued(11, 1));
        Check.is("4: these four", 4, () -> x.turn(11));
        Check.is("20, 21: and no others", "4 2", () -> x.lost() + " " + x.underWay());
        Check.is("17, 18: its ways are empty", "0 0 0 0", () -> x.flying(11, 0) + " " + x.queued(11, 0) + " " + x.flying(11, 1)
                + " " + x.queued(11, 1));
    }

    /** Promise 5: "many is not 0 to 9": 0 puts an end to what was to be lost. */
    private static void loseNone() {
        TidePost x = Scenes.pair(1);
        Check.argument("5: -1", () -> x.lose(0, 0, -1));
        Check.is("5: 0", 0, () -> x.lose(0, 0, 0));
        Check.is("5: 9", 0, () -> x.lose(0, 0, 9));
        Check.is("5: in place of 9", 9, () -> x.lose(0, 0, 0));
        x.call(0, 1, 1);
        x.pass(1);
        Check.is("19, 20: none is lost", "1 0", () -> x.flown(0, 0) + " " + x.lost());
    }

    /** Two HELLOs are sent at each of 0, 12, 36, 84 and 144: nine are LOST as they take off, and the tenth flies. */
    private static void loseNine() {
        TidePost x = Scenes.pair(1);
        Check.argument("5: 10", () -> x.lose(0, 0, 10));
        x.lose(0, 0, 9);
        x.call(0, 1, 1);
        x.call(0, 1, 1);
        Scenes.pass(x, 143);
        Check.is("20: eight are lost", "8 0", () -> x.lost() + " " + x.flown(0, 0));
        x.pass(1);
        Check.is("20: the ninth is", "9 0 1", () -> x.lost() + " " + x.flown(0, 0) + " " + x.queued(0, 0));
        x.pass(1);
        Check.is("20: the tenth is not", "9 1 0", () -> x.lost() + " " + x.flown(0, 0) + " " + x.queued(0, 0));
        Check.is("5: none is to be lost any more", 0, () -> x.lose(0, 0, 0));
    }

    /** Term 4 (d): "if its queue has packets": a tick without any does not make it less. */
    private static void loseNothingFromAnEmptyQueue() {
        TidePost x = Scenes.pair(1);
        x.lose(0, 0, 1);
        x.pass(9);
        Check.is("5: one is still to be lost", 1, () -> x.lose(0, 0, 1));
        x.call(0, 1, 1);
        Check.is("5: one is still to be lost, as it is queued", 1, () -> x.lose(0, 0, 1));
        x.pass(1);
        Check.is("5: it took off", 0, () -> x.lose(0, 0, 0));
    }
}
