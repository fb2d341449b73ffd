import java.math.BigInteger;

/**
 * Sentences of the document that the other tests did not hold the class to by a run of their own: each run here was worked
 * out from the sentence that it bears, and fails if the class does something else that would come close to it.
 */
public final class SentenceTest {
    public static void main(String[] args) {
        grownTickByTick();
        grownFarRoundByRound();
        queuedPacketStays();
        eachPacketHasItsRoute();
        answerFliesAsOftenAsAny();
        timerAheadOfSending();
        helloDoesNothingElse();
        cameBeforeIsNotHeld();
        measuredFarBelowWanted();
        behindRecoverWithMoreSent();
        grownBeyondThreshold();
        onlyBaseIsSentAgain();
        onlyBaseIsSentAgainInRecovery();
        byeIsSentAgainAsItWas();
        calleeOfAClosedOne();
        readOfEach();
        distanceWithoutEach();
        digestOfUnlikeNumbers();
        Check.end();
    }

    /**
     * The run that Scenes.grown() starts with, worked out tick by tick. HELLO takes off at 1, its answer at 2. From 3 on each
     * answer lets W grow by 8, so two THINGs more are sent, which wait for each other in the queue: 0 takes off at 3, 1 at 5,
     * 2 at 6, and so on to 15 at 19; each is answered 2 ticks after it took off. Measured are 0 (sent at 3), 1 (5), 3 (7),
     * 7 (9) and 15 (13), with rounds of 2, 2, 2, 4 and 8 ticks.
     */
    private static void grownTickByTick() {
        // clock, BASE, NEXT, W, ROOM; ROUND, SWING, TIMEOUT, timer, MEASURED
        int[][] rows = {
            {3, 0, 1, 8, 16, 0, 0, 12, 15, 0},
            {4, 0, 1, 8, 16, 0, 0, 12, 15, 0},
            {5, 1, 3, 16, 15, 16, 4, 6, 11, 1},
            {6, 1, 3, 16, 15, 16, 4, 6, 11, 1},
            {7, 2, 5, 24, 14, 16, 3, 5, 12, 3},
            {8, 3, 7, 32, 13, 16, 3, 5, 13, 3},
            {9, 4, 9, 40, 12, 16, 3, 5, 14, 7},
            {10, 5, 11, 48, 11, 16, 3, 5, 15, 7},
            {11, 6, 13, 56, 10, 16, 3, 5, 16, 7},
            {12, 7, 15, 64, 9, 16, 3, 5, 17, 7},
            {13, 8, 16, 72, 8, 18, 5, 7, 20, 15},
            {14, 9, 16, 80, 7, 18, 5, 7, 21, 15},
            {15, 10, 16, 88, 6, 18, 5, 7, 22, 15},
            {16, 11, 16, 96, 5, 18, 5, 7, 23, 15},
            {17, 12, 16, 104, 4, 18, 5, 7, 24, 15},
            {18, 13, 16, 112, 3, 18, 5, 7, 25, 15},
            {19, 14, 16, 120, 2, 18, 5, 7, 26, 15},
            {20, 15, 16, 128, 1, 18, 5, 7, 27, 15},
            {21, 16, 16, 129, 0, 24, 10, 13, -1, -1},
        };
        TidePost x = Scenes.pair(1);
        x.call(0, 1, 16);
        x.give(0, 0, 16);
        x.pass(2);
        for (int[] row : rows) {
            x.pass(1);
            Check.is("11, 23 to 31: at " + row[0], row[0] + " 1 16 " + row[1] + " " + row[2] + " " + row[3] + " 128 " + row[4]
                    + " 0 -1", () -> x.clock() + " " + Scenes.caller(x, 0));
            Check.is("32 to 38: at " + row[0], row[5] + " " + row[6] + " " + row[7] + " " + row[8] + " " + row[9] + " 0 0",
                    () -> Scenes.timing(x, 0));
        }
        Check.is("39 to 42: all came", "16 16 0", () -> Scenes.callee(x, 0));
        Check.is("19: HELLO and 16 THINGs, and their answers", "17 17", () -> x.flown(0, 0) + " " + x.flown(0, 1));
    }

    /**
     * The like for Scenes.grownFar(): HELLO is answered at 19, and once more, as it was sent again at 12, at 30. Measured are
     * 0 (sent at 19), 1 (37), 3 (55), 7 (73) and 15 (91), each with a round of 18 ticks.
     */
    private static void grownFarRoundByRound() {
        int[][] rows = {{37, 1, 3, 16, 144, 36, 54}, {55, 2, 5, 24, 144, 27, 45}, {73, 4, 9, 40, 144, 21, 39},
            {91, 8, 16, 72, 144, 16, 34}, {109, 16, 16, 129, 144, 12, 30}};
        TidePost x = Scenes.pair(9);
        x.call(0, 1, 16);
        x.give(0, 0, 16);
        x.pass(29);
        Check.is("23, 30, 34: at 29", "1 0 24", () -> x.stateOf(0) + " " + x.like(0) + " " + x.timeout(0));
        x.pass(1);
        Check.is("30: HELLO was answered twice", 1, () -> x.like(0));
        for (int[] row : rows) {
            Scenes.pass(x, row[0] - x.clock());
            Check.is("25 to 27, 32 to 34: at " + row[0], row[1] + " " + row[2] + " " + row[3] + " " + row[4] + " " + row[5] + " "
                    + row[6], () -> x.base(0) + " " + x.next(0) + " " + x.window(0) + " " + x.round(0) + " " + x.swing(0) + " "
                    + x.timeout(0));
        }
        Check.is("30: LIKE is 0 since 37", "0 0", () -> x.like(0) + " " + x.room(0));
    }

    /** Term 1: a packet "is put at the end of the queue of the next link of the route", and waits there, as routes change. */
    private static void queuedPacketStays() {
        TidePost x = Scenes.nodes(3);
        x.addLink(0, 1, 9, 20);
        x.call(0, 1, 1);
        x.call(0, 1, 1);
        x.pass(1);
        x.addLink(0, 2, 1, 20);
        x.addLink(2, 1, 1, 20);
        Check.is("16: there is a shorter route", "1 2", () -> x.nextLink(0, 1) + " " + x.distance(0, 1));
        x.call(0, 1, 1);
        Check.is("17: only what is sent now takes it", "1 1", () -> x.queued(0, 0) + " " + x.queued(1, 0));
        x.pass(1);
        Check.is("19: and takes off there", "2 1", () -> x.flown(0, 0) + " " + x.flown(1, 0));
    }

    /**
     * Term 1: "of those that lead to a node from which the rest is as short as it must be, the one with the smallest
     * number". Round a square HELLO goes by the links 0 and 2, its answer by 1 and 3.
     */
    private static void eachPacketHasItsRoute() {
        TidePost x = Scenes.nodes(4);
        x.addLink(0, 1, 1, 20);
        x.addLink(3, 2, 1, 20);
        x.addLink(1, 2, 1, 20);
        x.addLink(0, 3, 1, 20);
        x.call(0, 2, 1);
        x.pass(4);
        Check.is("19: way 0", "1 0 1 0", () -> x.flown(0, 0) + " " + x.flown(1, 0) + " " + x.flown(2, 0) + " " + x.flown(3, 0));
        Check.is("19: way 1", "0 1 0 1", () -> x.flown(0, 1) + " " + x.flown(1, 1) + " " + x.flown(2, 1) + " " + x.flown(3, 1));
        Check.is("23: calling", 0, () -> x.stateOf(0));
        x.pass(1);
        Check.is("23: open", 1, () -> x.stateOf(0));
    }

    /**
     * Term 1: "if it has flown over 16 links already": an ANSWER, whose flights begin with its own first one, at 10. It is
     * sent to and fro between the nodes 0 and 1, as the link 2 is up whenever it is at the node 0, and down at the node 1.
     */
    private static void answerFliesAsOftenAsAny() {
        TidePost x = answerToAndFro();
        x.pass(1);
        Check.is("19: from the node 1 to its goal, as the sixteenth time", "15 1", () -> x.flown(0, 0) + x.flown(0, 1) + " "
                + x.flying(2, 0));
        x.pass(1);
        Check.is("23, 20: it comes; the HELLO of 12 was lost", "1 1", () -> x.stateOf(0) + " " + x.lost());
        TidePost y = answerToAndFro();
        y.turn(2);
        y.pass(1);
        Check.is("19, 20: to the node 0, as the sixteenth time", "16 1", () -> y.flown(0, 0) + y.flown(0, 1) + " " + y.lost());
        y.pass(1);
        Check.is("15, 20: there is a route, but it is lost", "9 2", () -> y.distance(0, 2) + " " + y.lost());
        Check.is("23, 21: none is under way", "0 0", () -> y.stateOf(0) + " " + y.underWay());
    }

    /** At the clock 24, with 15 flights of the ANSWER. */
    private static TidePost answerToAndFro() {
        TidePost x = Scenes.nodes(3);
        x.addLink(0, 1, 1, 20);
        x.addLink(0, 2, 9, 20);
        x.addLink(1, 2, 1, 20);
        x.turn(2);
        x.call(2, 0, 1);
        x.pass(9);
        for (int clock = 10; clock <= 24; clock++) {
            x.turn(2);
            x.pass(1);
        }
        return x;
    }

    /** Term 4, (b) ahead of (c): at 37 the timer of 16 runs out, W becomes 8, and so 17, given at 36, is not sent. */
    private static void timerAheadOfSending() {
        TidePost x = Scenes.grown();
        x.give(0, 0, 1);
        x.lose(0, 0, 1);
        x.pass(13);
        x.give(0, 0, 1);
        Check.is("35: the timer is due", "36 37", () -> x.clock() + " " + x.timer(0));
        x.pass(1);
        Check.is("23 to 31: at 37", "1 18 16 17 8 16 16 0 16", () -> Scenes.caller(x, 0));
        Check.is("17, 18: 16 alone flies", "0 1", () -> x.queued(0, 0) + " " + x.flying(0, 0));
    }

    /**
     * Term 5: "HELLO does nothing else". Those of 12 and 36 are on the long way, of 18 ticks, as the two pieces take the
     * short one; that of 36 comes at 54, and its answer, by the short way, at 55.
     */
    private static void helloDoesNothingElse() {
        TidePost x = shortWayFrom36(2);
        x.pass(5);
        Check.is("23 to 31: both are answered at 41", "1 2 2 2 24 128 2 0 -1", () -> Scenes.caller(x, 0));
        x.read(0, 1);
        x.pass(13);
        Check.is("39, 41, 42: HELLO came at 54", "2 1 1", () -> Scenes.callee(x, 0));
        Check.is("19: and is answered", 3, () -> x.flown(2, 1));
        x.pass(1);
        Check.is("29: ROOM is told by that", "1 2 2 2 24 128 3 0 -1", () -> Scenes.caller(x, 0));
        Check.is("9: the other piece", 6, () -> x.read(0, 1));
    }

    /** At the clock 36, a connection with some pieces, and with HELLOs on a way of 18 ticks; from now on there is one of 1. */
    private static TidePost shortWayFrom36(int pieces) {
        TidePost x = Scenes.nodes(3);
        x.addLink(0, 2, 9, 20);
        x.addLink(2, 1, 9, 20);
        x.addLink(0, 1, 1, 20);
        x.turn(2);
        x.call(0, 1, 4);
        if (pieces > 0) {
            x.give(0, 5, pieces);
        }
        x.pass(36);
        x.turn(2);
        return x;
    }

    /** Term 5: "if n is less than WANTED [..] it has no effect": it is not HELD either. */
    private static void cameBeforeIsNotHeld() {
        TidePost x = Scenes.pair(1);
        x.call(0, 1, 4);
        x.give(0, 5, 1);
        x.pass(3);
        x.lose(0, 1, 1);
        x.pass(13);
        Check.is("19: 0 flew twice", 3, () -> x.flown(0, 0));
        Check.is("40: 0 is not held", false, () -> x.holds(0, 0));
        Check.is("39, 41, 42, 20: nothing is changed", "1 1 0 1", () -> Scenes.callee(x, 0) + " " + x.lost());
    }

    /** Term 5: "if MEASURED is a number less than w": 16, sent at 24, is, as w is 18 at 27, for its own answer was lost. */
    private static void measuredFarBelowWanted() {
        TidePost x = Scenes.grown();
        x.give(0, 0, 2);
        x.lose(0, 1, 1);
        x.pass(3);
        Check.is("20: one answer was lost", 1, x::lost);
        Check.is("36: 16 is measured", "16 16", () -> x.base(0) + " " + x.measured(0));
        x.pass(1);
        Check.is("23 to 31: at 27", "1 18 18 18 130 128 14 0 -1", () -> Scenes.caller(x, 0));
        Check.is("32 to 38: a round of 3", "24 8 11 -1 -1 0 0", () -> Scenes.timing(x, 0));
    }

    /**
     * Term 5: "if w is not greater than RECOVER": w is greater by 1, and THINGs behind RECOVER were sent. Of 16 to 20 the
     * first and the last are lost; at 31 20 is sent again, and 21 and 22 are sent.
     */
    private static void behindRecoverWithMoreSent() {
        TidePost x = Scenes.grown();
        x.give(0, 0, 5);
        x.lose(0, 0, 1);
        x.pass(4);
        x.lose(0, 0, 1);
        x.pass(3);
        x.give(0, 0, 3);
        x.pass(1);
        Check.is("23 to 31, 38: at 31", "1 24 20 23 20 20 12 0 20 2", () -> Scenes.caller(x, 0) + " " + x.sentAgain(0));
        Check.is("35, 36: at 31", "44 21", () -> x.timer(0) + " " + x.measured(0));
        x.pass(2);
        Check.is("23 to 31, 38: at 33", "1 24 21 24 23 20 11 0 -1 2", () -> Scenes.caller(x, 0) + " " + x.sentAgain(0));
        Check.is("35, 36: at 33", "46 21", () -> x.timer(0) + " " + x.measured(0));
    }

    /** Term 5: "W grows: by 8, if it is below THRESHOLD": from 16 to 24, though THRESHOLD is 20; then by 64 / 24. */
    private static void grownBeyondThreshold() {
        TidePost x = Scenes.grown();
        x.give(0, 0, 5);
        x.lose(0, 0, 9);
        x.pass(13);
        Check.is("5: five were lost", 4, () -> x.lose(0, 0, 0));
        x.pass(1);
        Check.is("27, 28, 31: the timer ran out", "8 20 20", () -> x.window(0) + " " + x.threshold(0) + " " + x.recover(0));
        // one by one 16 to 20 are sent again, at 37, 39, 41, 43 and 45
        x.pass(9);
        Check.is("25, 27, 38: at 46", "20 8 5", () -> x.base(0) + " " + x.window(0) + " " + x.sentAgain(0));
        x.pass(1);
        Check.is("25, 27, 38: at 47", "21 16 5", () -> x.base(0) + " " + x.window(0) + " " + x.sentAgain(0));
        int[] due = {24, 26, 28};
        for (int window : due) {
            x.give(0, 0, 1);
            x.pass(3);
            Check.is("27: one more is answered", window, () -> x.window(0));
        }
    }

    /** Terms 5 and 7: "the THING BASE is sent again", and no other one. */
    private static void onlyBaseIsSentAgain() {
        TidePost x = Scenes.grown();
        x.give(0, 0, 3);
        x.lose(0, 0, 3);
        x.pass(13);
        Check.is("21, 26: 16 to 18 are lost", "0 19", () -> x.underWay() + " " + x.next(0));
        x.pass(1);
        Check.is("17, 18, 38: the timer ran out", "0 1 1", () -> x.queued(0, 0) + " " + x.flying(0, 0) + " " + x.sentAgain(0));
        x.pass(1);
        Check.is("39: it was 16", "17 true", () -> x.wanted(0) + " " + (x.flown(0, 0) == 18));
        TidePost y = Scenes.grown();
        y.give(0, 0, 5);
        y.lose(0, 0, 1);
        y.pass(6);
        Check.is("17, 18, 38: the third like answer", "0 1 1", () -> y.queued(0, 0) + " " + y.flying(0, 0) + " "
                + y.sentAgain(0));
        y.pass(1);
        Check.is("39: it was 16", "21 0", () -> y.wanted(0) + " " + y.flying(0, 0));
    }

    /** 16, 18 and 20 of five are lost. LIKE becomes 2 alone, so the timer runs out, at 37; then each answer tells of one gap. */
    private static void onlyBaseIsSentAgainInRecovery() {
        TidePost x = Scenes.grown();
        x.give(0, 0, 5);
        for (int i = 0; i < 5; i++) {
            x.lose(0, 0, i % 2 == 0 ? 1 : 0);
            x.pass(1);
        }
        x.pass(8);
        Check.is("30, 39: at 36", "2 16 true true", () -> x.like(0) + " " + x.wanted(0) + " " + x.holds(0, 17) + " "
                + x.holds(0, 19));
        x.pass(3);
        Check.is("25, 31, 38: w is 18 at 39", "18 20 2", () -> x.base(0) + " " + x.recover(0) + " " + x.sentAgain(0));
        Check.is("17, 18: 18 alone flies", "0 1", () -> x.queued(0, 0) + " " + x.flying(0, 0));
        x.pass(2);
        Check.is("25, 31, 38: w is 20 at 41", "20 20 3", () -> x.base(0) + " " + x.recover(0) + " " + x.sentAgain(0));
        x.pass(2);
        Check.is("25, 31, 38: w is 21 at 43", "21 -1 3", () -> x.base(0) + " " + x.recover(0) + " " + x.sentAgain(0));
        Check.is("20: these three were lost", 3, x::lost);
    }

    /** Term 6: "A THING that is sent again is sent as it was": BYE, for which there needs to be no place, as BYE. */
    private static void byeIsSentAgainAsItWas() {
        TidePost x = Scenes.pair(1);
        x.call(0, 1, 1);
        x.give(0, 5, 1);
        x.close(0);
        x.pass(4);
        x.lose(0, 0, 1);
        x.pass(7);
        Check.is("26, 38: BYE, sent at 5, is sent again at 11", "2 1 1", () -> x.next(0) + " " + x.sentAgain(0) + " " + x.lost());
        x.pass(1);
        Check.is("39, 20: it came, though there is no place", "2 1 0 1", () -> Scenes.callee(x, 0) + " " + x.lost());
        x.pass(1);
        Check.is("23 to 31: closed", "2 1 2 2 16 16 0 0 -1", () -> Scenes.caller(x, 0));
    }

    /**
     * Term 5: "At a connection that is CLOSED [..] an ANSWER has no effect; its callee goes on as said." The HELLO of 36 is
     * on the long way as BYE takes the short one, and comes at 54; that of 12 is answered at 48.
     */
    private static void calleeOfAClosedOne() {
        TidePost x = shortWayFrom36(0);
        x.close(0);
        x.pass(3);
        Check.is("23 to 31: closed at 39", "2 0 1 1 16 128 3 0 -1", () -> Scenes.caller(x, 0));
        Check.is("21: two packets are on the long way", 2, x::underWay);
        x.pass(14);
        Check.is("21, 19: at 53", "1 1", () -> x.underWay() + " " + x.flown(2, 1));
        x.pass(1);
        Check.is("21, 19: HELLO is answered at 54", "1 2", () -> x.underWay() + " " + x.flown(2, 1));
        x.pass(1);
        Check.is("21: that came", 0, x::underWay);
        Check.is("23 to 31: nothing is changed", "2 0 1 1 16 128 3 0 -1", () -> Scenes.caller(x, 0));
        Check.is("32 to 38: nothing is changed", "16 4 6 -1 -1 0 0", () -> Scenes.timing(x, 0));
    }

    /** Promise 9: "Returns the sum of their values": of the pieces of this connection, in the order in which they were given. */
    private static void readOfEach() {
        TidePost x = Scenes.pair(1);
        x.call(0, 1, 16);
        x.call(1, 0, 16);
        x.call(0, 1, 16);
        x.give(2, 70, 1);
        x.give(0, 100, 2);
        x.give(1, 7, 3);
        x.give(2, 30, 2);
        x.pass(30);
        Check.is("9: of 1", 7 + 8 + 9, () -> x.read(1, 50));
        Check.is("9: of 2", 70 + 30, () -> x.read(2, 2));
        Check.is("9: of 0", 100 + 101, () -> x.read(0, 50));
        Check.is("9: of 2, the last one", 31, () -> x.read(2, 2));
    }

    /** Promise 46: "with this link down", whichever it is, from either side: round a ring of the delays 1, 2, 3 and 4. */
    private static void distanceWithoutEach() {
        TidePost x = Scenes.nodes(4);
        for (int i = 0; i < 4; i++) {
            x.addLink(i, (i + 1) % 4, i + 1, 1);
        }
        int[] due = {9, 8, 7, 6};
        for (int i = 0; i < 4; i++) {
            int link = i;
            int end = (i + 1) % 4;
            Check.is("46: without " + i, due[i] + " " + due[i], () -> x.distanceWithout(link, link, end) + " "
                    + x.distanceWithout(link, end, link));
        }
        Check.is("15: with all of them", "1 2 3 4 3", () -> x.distance(0, 1) + " " + x.distance(1, 2) + " " + x.distance(2, 3)
                + " " + x.distance(3, 0) + " " + x.distance(2, 0));
        Check.is("46: from 2 to 0, without each", "7 7 3 3", () -> x.distanceWithout(0, 2, 0) + " " + x.distanceWithout(1, 2, 0)
                + " " + x.distanceWithout(2, 2, 0) + " " + x.distanceWithout(3, 2, 0));
    }

    /** Promise 47, at the clock 3, with one HELLO LOST and two in flight, over a link that is up, beside one that is down. */
    private static void digestOfUnlikeNumbers() {
        TidePost x = Scenes.nodes(3);
        x.addLink(0, 1, 5, 20);
        x.addLink(1, 2, 3, 1);
        x.turn(1);
        x.lose(0, 0, 1);
        for (int i = 0; i < 3; i++) {
            x.call(0, 1, 4 + i);
        }
        x.give(1, 9, 7);
        x.pass(3);
        int[] network = {3, 3, 2, 1, 2, 3};
        int[] links = {1, 0, 2, 2, 0, 0, 0, 0, 0, 0, 0, 0, 0, 0};
        BigInteger d = added(added(BigInteger.valueOf(58043), network), links);
        for (int i = 0; i < 3; i++) {
            int[] connection = {0, i == 1 ? 7 : 0, 0, 0, 8, 128, 4 + i, 0, -1, 0, 0, 12, 12, -1, 0, 0, 0, 0, 0};
            d = added(d, connection);
        }
        int[] distances = {0, 5, -1};
        long due = added(d, distances).longValue();
        Check.is("20, 21: lost and under way", "1 2", () -> x.lost() + " " + x.underWay());
        Check.is("47: digest()", due, x::digest);
    }

    private static BigInteger added(BigInteger start, int[] numbers) {
        BigInteger d = start;
        for (int number : numbers) {
            d = d.multiply(BigInteger.valueOf(31)).add(BigInteger.valueOf(number));
        }
        return d;
    }
}
