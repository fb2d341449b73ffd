/** The boundaries that the terms 3, 4, 6 and 7 name: connections, the order of a tick, sending, and the timer. */
public final class BoundarySendingTest {
    public static void main(String[] args) {
        grown();
        sixthConnection();
        leastBuffer();
        greatestBuffer();
        twoHundredPieces();
        roomNotBelowNothing();
        withinOneTick();
        answerAtTheTimersTick();
        answerOfAThingAtTheTimersTick();
        timersByNumbers();
        sendingByNumbers();
        callingSendsNothing();
        windowBound();
        roomBound();
        byeAndRoom();
        byeAndWindow();
        firstOneIsMeasured();
        sentAgainIsMeasuredNoMore();
        timerEndsMeasuring();
        leastThresholdOfTimer();
        doubledToSixty();
        helloDoubled();
        sixthTry();
        answerAtTheFifthTry();
        calleeOfABrokenOne();
        Check.end();
    }

    /** What the runs here start from. */
    private static void grown() {
        TidePost x = Scenes.grown();
        Check.is("11: clock()", 23, x::clock);
        Check.is("23 to 31: grown", "1 16 16 16 129 128 16 0 -1", () -> Scenes.caller(x, 0));
        Check.is("32 to 38: grown", "24 10 13 -1 -1 0 0", () -> Scenes.timing(x, 0));
        Check.is("39 to 42: grown", "16 0 16", () -> Scenes.callee(x, 0));
        Check.is("20, 21: grown", "0 0", () -> x.lost() + " " + x.underWay());
    }

    /** Term 3: "CONNECTIONS, at most 6"; promise 6: "if there are 6". */
    private static void sixthConnection() {
        TidePost x = Scenes.pair(1);
        for (int i = 0; i < 5; i++) {
            x.call(0, 1, 1);
        }
        Check.index("23: connection 5 is not there", () -> x.stateOf(5));
        Check.is("6: the sixth", 5, () -> x.call(1, 0, 16));
        Check.state("6: the seventh", () -> x.call(1, 0, 16));
        Check.is("22: connections()", 6, x::connections);
        Check.is("7: it is given pieces", 50, () -> x.give(5, 0, 50));
        // its answer waits behind five HELLOs, and takes off at 6
        x.pass(8);
        Check.is("39: they come", "1 1", () -> x.stateOf(5) + " " + x.wanted(5));
    }

    /** Term 3: "a BUFFER, 1 to 16". */
    private static void leastBuffer() {
        TidePost x = Scenes.pair(1);
        Check.argument("6: 0", () -> x.call(0, 1, 0));
        x.call(0, 1, 1);
        x.give(0, 4, 2);
        x.pass(6);
        Check.is("39: one is held back for the reader", "1 1 0", () -> Scenes.callee(x, 0));
        Check.is("20: the next one is lost", 1, x::lost);
    }

    private static void greatestBuffer() {
        TidePost x = Scenes.pair(1);
        Check.argument("6: 17", () -> x.call(0, 1, 17));
        x.call(0, 1, 16);
        x.give(0, 4, 17);
        x.pass(21);
        Check.is("39: sixteen are held back for the reader", "16 16 0", () -> Scenes.callee(x, 0));
        Check.is("20: none is lost", 0, x::lost);
        x.pass(1);
        Check.is("39: not seventeen", "16 16 0", () -> Scenes.callee(x, 0));
        Check.is("20: the seventeenth is lost", 1, x::lost);
        Check.is("9: all can be read", 4 * 16 + 120, () -> x.read(0, 50));
    }

    /** Term 3: "PIECES, at most 200", and behind them BYE, "with the next number". */
    private static void twoHundredPieces() {
        TidePost x = Scenes.pair(1);
        x.call(0, 1, 16);
        for (int i = 0; i < 3; i++) {
            x.give(0, 1 + 50 * i, 50);
        }
        Check.is("7: 199", 199, () -> x.give(0, 151, 49));
        Check.state("7: 201", () -> x.give(0, 200, 2));
        Check.is("9: the sum of all", 199 * 200 / 2, () -> readAll(x, 56));
        Check.is("25, 26: all is answered", "199 199 199", () -> x.base(0) + " " + x.next(0) + " " + x.hasRead(0));
        Check.is("7: 200", 200, () -> x.give(0, 200, 1));
        Check.state("7: one more", () -> x.give(0, 201, 1));
        Check.is("8: the last one and BYE", 2, () -> x.close(0));
        x.lose(0, 0, 1);
        x.pass(3);
        Check.is("40: BYE is held, with the number 200", "false true false", () -> x.holds(0, 199) + " " + x.holds(0, 200) + " "
                + x.holds(0, 201));
        Check.is("39, 41: 199 is wanted", "199 0 199", () -> Scenes.callee(x, 0));
        x.pass(30);
        Check.is("23 to 26: closed", "2 200 201 201", () -> x.stateOf(0) + " " + x.given(0) + " " + x.base(0) + " " + x.next(0));
        Check.is("39, 41: all is there", "201 1 199", () -> Scenes.callee(x, 0));
        Check.is("9: the last one", 200, () -> x.read(0, 50));
        Check.state("9: BYE is none", () -> x.read(0, 1));
    }

    private static int readAll(TidePost x, int rounds) {
        int sum = 0;
        for (int i = 0; i < rounds; i++) {
            x.pass(4);
            if (x.readable(0) > 0) {
                sum += x.read(0, 50);
            }
        }
        return sum;
    }

    /** Term 3: "READ + BUFFER - WANTED, but not below 0": BYE, which needs no place, makes it 1 less. */
    private static void roomNotBelowNothing() {
        TidePost x = Scenes.pair(1);
        x.call(0, 1, 2);
        x.give(0, 5, 2);
        x.close(0);
        x.pass(8);
        Check.is("29: 0 + 2 - 3 is told as 0", "2 2 3 3 32 128 0 0 -1", () -> Scenes.caller(x, 0));
        Check.is("9: read(0, 1)", 5, () -> x.read(0, 1));
        Check.is("9: 1 + 2 - 3 is 0 still: no answer", 0, x::underWay);
        Check.is("9: read(0, 1)", 6, () -> x.read(0, 1));
        Check.is("9: 2 + 2 - 3 is 1: an answer", 1, x::underWay);
    }

    /** Term 4: what arrives is answered, and what is sent takes off, within the same tick. */
    private static void withinOneTick() {
        TidePost x = Scenes.line(3, 1);
        x.call(0, 2, 1);
        x.give(0, 1, 1);
        x.pass(2);
        Check.is("term 4: at the node 1 it went on at once", "0 1", () -> x.flying(0, 0) + " " + x.flying(1, 0));
        x.pass(1);
        Check.is("term 4: the answer took off at once", "0 1", () -> x.queued(1, 1) + " " + x.flying(1, 1));
        x.pass(2);
        Check.is("term 4: open, and the first THING took off at once", "1 1 0 1", () -> x.stateOf(0) + " " + x.next(0) + " "
                + x.queued(0, 0) + " " + x.flying(0, 0));
        Check.is("35: the timer is set to the clock + 12", 17, () -> x.timer(0));
    }

    /** Term 4, (a) ahead of (b): HELLOs of 0 are answered at 11, 12 and 13, and the timers are set to 12. */
    private static void answerAtTheTimersTick() {
        TidePost x = Scenes.pair(5);
        x.call(0, 1, 1);
        x.call(0, 1, 1);
        x.call(0, 1, 1);
        x.pass(11);
        Check.is("35: timers", "-1 12 12", () -> x.timer(0) + " " + x.timer(1) + " " + x.timer(2));
        x.pass(1);
        Check.is("23: states", "1 1 0", () -> x.stateOf(0) + " " + x.stateOf(1) + " " + x.stateOf(2));
        Check.is("34 to 37: just in time", "0 0 12 -1 -1 0 0", () -> Scenes.timing(x, 1));
        Check.is("34 to 37: too late", "0 0 24 36 -1 1 0", () -> Scenes.timing(x, 2));
        x.pass(1);
        Check.is("34 to 37: answered then", "0 0 24 -1 -1 0 0", () -> Scenes.timing(x, 2));
    }

    /** The THING 16 of the connection 1 waits in the queue behind some of the connection 0. */
    private static TidePost behind(int others) {
        TidePost x = Scenes.pair(1);
        Scenes.grow(x, 16);
        Scenes.grow(x, 16);
        x.give(0, 0, others);
        x.give(1, 0, 1);
        x.pass(1);
        return x;
    }

    /** It is sent at 47, the timer is set to 60; behind 11 others it takes off at 58, behind 12 at 59. */
    private static void answerOfAThingAtTheTimersTick() {
        TidePost x = behind(11);
        Check.is("35: the timer", "47 60", () -> x.clock() + " " + x.timer(1));
        x.pass(13);
        Check.is("23 to 31: answered at 60", "1 17 17 17 130 128 15 0 -1", () -> Scenes.caller(x, 1));
        Check.is("32 to 38: 13 ticks, and no try", "34 18 22 -1 -1 0 0", () -> Scenes.timing(x, 1));
        TidePost y = behind(12);
        y.pass(13);
        Check.is("23 to 31: the timer ran out at 60", "1 17 16 17 8 16 16 0 16", () -> Scenes.caller(y, 1));
        Check.is("32 to 38: the timer ran out at 60", "24 10 26 86 -1 1 1", () -> Scenes.timing(y, 1));
        y.pass(1);
        Check.is("23 to 31: answered at 61", "1 17 17 17 16 16 15 0 -1", () -> Scenes.caller(y, 1));
        Check.is("32 to 38: not measured", "24 10 26 -1 -1 0 1", () -> Scenes.timing(y, 1));
    }

    /** Term 4 (b), "by numbers": of two HELLOs at the tick 12 the first one takes the only place. */
    private static void timersByNumbers() {
        TidePost x = Scenes.nodes(2);
        x.addLink(0, 1, 1, 1);
        x.turn(0);
        x.call(0, 1, 1);
        x.call(0, 1, 1);
        x.turn(0);
        x.pass(12);
        Check.is("20: two by a link that was down, one by the queue", 3, x::lost);
        x.pass(2);
        Check.is("23: states", "1 0", () -> x.stateOf(0) + " " + x.stateOf(1));
    }

    /** Term 4 (c), "by numbers": likewise of two THINGs, be the second one's piece given first. */
    private static void sendingByNumbers() {
        TidePost x = Scenes.nodes(2);
        x.addLink(0, 1, 1, 1);
        x.call(0, 1, 1);
        x.pass(3);
        x.call(0, 1, 1);
        x.pass(3);
        x.give(1, 5, 1);
        x.give(0, 5, 1);
        x.pass(2);
        Check.is("39: the one of the connection 0 came", "1 0 1", () -> x.wanted(0) + " " + x.wanted(1) + " " + x.lost());
    }

    /** Term 6: "one that is OPEN sends". */
    private static void callingSendsNothing() {
        TidePost x = Scenes.pair(1);
        x.call(0, 1, 16);
        x.give(0, 0, 50);
        x.pass(2);
        Check.is("26: calling", "0 0", () -> x.stateOf(0) + " " + x.next(0));
        x.pass(1);
        Check.is("26: open", "1 1", () -> x.stateOf(0) + " " + x.next(0));
    }

    /** A connection whose THRESHOLD is 16, and whose W is 16 and has grown by so many answers since. */
    private static TidePost slow(int answers) {
        TidePost x = Scenes.pair(1);
        x.call(0, 1, 16);
        x.give(0, 0, 1);
        x.pass(2);
        x.lose(0, 0, 1);
        x.pass(15);
        for (int i = 0; i < answers; i++) {
            x.give(0, 0, 1);
            x.pass(3);
            x.read(0, 50);
        }
        return x;
    }

    /** Term 6: "(NEXT - BASE) * 8 is less than W". */
    private static void windowBound() {
        int[][] rows = {{0, 16, 2}, {1, 20, 3}, {2, 23, 3}, {3, 25, 4}, {6, 31, 4}, {7, 33, 5}};
        for (int[] row : rows) {
            TidePost x = slow(row[0]);
            x.give(0, 0, 9);
            Check.is("27: window(0)", row[1], () -> x.window(0));
            x.pass(1);
            Check.is("26: sent with W " + row[1], row[2], () -> x.next(0) - x.base(0));
        }
        TidePost x = Scenes.pair(1);
        x.call(0, 1, 16);
        x.give(0, 0, 50);
        x.pass(3);
        Check.is("27, 26: with W 8", "8 1", () -> x.window(0) + " " + (x.next(0) - x.base(0)));
        x.pass(4);
        Check.is("27, 26: with W 24", "24 3", () -> x.window(0) + " " + (x.next(0) - x.base(0)));
    }

    /** Term 6: "if it is DATA, NEXT - BASE is less than ROOM, or NEXT is BASE". */
    private static void roomBound() {
        int[][] rows = {{0, 1}, {1, 1}, {2, 2}, {3, 3}, {15, 15}, {16, 16}};
        for (int[] row : rows) {
            TidePost x = Scenes.pair(1);
            Scenes.grow(x, row[0]);
            x.give(0, 0, 50);
            Check.is("29: room(0)", row[0], () -> x.room(0));
            x.pass(1);
            Check.is("26: sent with ROOM " + row[0], row[1], () -> x.next(0) - 16);
            x.pass(1);
            Check.is("26: no more while nothing is answered", row[1], () -> x.next(0) - 16);
        }
    }

    /** "if it is DATA": BYE goes without room, but not ahead of a piece. */
    private static void byeAndRoom() {
        int[][] rows = {{0, 0, 1}, {0, 1, 2}, {0, 2, 1}, {1, 1, 2}, {1, 2, 1}, {2, 2, 3}, {2, 3, 2}};
        for (int[] row : rows) {
            TidePost x = Scenes.pair(1);
            Scenes.grow(x, row[0]);
            if (row[1] > 0) {
                x.give(0, 0, row[1]);
            }
            Check.is("8: close(0)", row[1] + 1, () -> x.close(0));
            x.pass(1);
            Check.is("26: with ROOM " + row[0] + ", " + row[1] + " pieces and BYE", row[2], () -> x.next(0) - 16);
        }
    }

    /** W bounds BYE as well. */
    private static void byeAndWindow() {
        TidePost x = Scenes.pair(1);
        x.call(0, 1, 16);
        x.give(0, 5, 1);
        x.close(0);
        x.pass(4);
        Check.is("26: BYE waits", 1, () -> x.next(0));
        x.pass(1);
        Check.is("26: till the piece is answered", "1 2", () -> x.base(0) + " " + x.next(0));
    }

    /** Term 6: "if MEASURED is nothing", "if the timer is not set": the second THING changes neither of them. */
    private static void firstOneIsMeasured() {
        TidePost x = Scenes.grown();
        x.give(0, 0, 2);
        x.lose(0, 0, 1);
        x.pass(1);
        Check.is("35, 36: of two at once the first one", "24 10 13 37 16 0 0", () -> Scenes.timing(x, 0));
        x.give(0, 0, 1);
        x.pass(1);
        Check.is("26, 35, 36: one more is sent", "19 37 16", () -> x.next(0) + " " + x.timer(0) + " " + x.measured(0));
    }

    /** Term 6: "A THING that is sent again is sent as it was; if it is MEASURED, that is nothing then." */
    private static void sentAgainIsMeasuredNoMore() {
        TidePost x = Scenes.grown();
        x.give(0, 700, 4);
        x.lose(0, 0, 1);
        x.pass(5);
        Check.is("36, 38: 16 is measured", "16 0", () -> x.measured(0) + " " + x.sentAgain(0));
        x.pass(1);
        Check.is("36, 38: 16 is sent again", "-1 1", () -> x.measured(0) + " " + x.sentAgain(0));
        x.pass(2);
        Check.is("32, 33: and its round not measured", "20 24 10 13", () -> x.base(0) + " " + x.round(0) + " " + x.swing(0)
                + " " + x.timeout(0));
        Check.is("9: sent as it was", 700, () -> x.read(0, 1));
        measuredInRecovery();
    }

    /** 17 and 20 are lost. As 17 is sent again, 20 is MEASURED still; as 20 is, it is no more. */
    private static void measuredInRecovery() {
        TidePost x = Scenes.grown();
        x.give(0, 0, 1);
        x.pass(1);
        x.give(0, 0, 3);
        x.lose(0, 0, 1);
        x.pass(1);
        x.give(0, 0, 2);
        x.pass(2);
        x.lose(0, 0, 1);
        x.pass(3);
        Check.is("36, 38: at 30", "30 17 22 20 2 0", () -> x.clock() + " " + x.base(0) + " " + x.next(0) + " " + x.measured(0)
                + " " + x.like(0) + " " + x.sentAgain(0));
        x.pass(1);
        Check.is("36, 38: 17 is sent again", "17 20 1", () -> x.base(0) + " " + x.measured(0) + " " + x.sentAgain(0));
        x.pass(2);
        Check.is("36, 38: 20 is sent again", "20 -1 2", () -> x.base(0) + " " + x.measured(0) + " " + x.sentAgain(0));
    }

    /** Term 7: "MEASURED is nothing", be it another one than that which is sent again: 17 is, as 16 was answered. */
    private static void timerEndsMeasuring() {
        TidePost x = Scenes.grown();
        x.give(0, 0, 1);
        x.pass(1);
        x.give(0, 0, 1);
        x.lose(0, 0, 1);
        x.pass(1);
        x.give(0, 0, 1);
        x.pass(1);
        Check.is("35, 36: 17 is lost, 18 is measured", "26 37 17 18", () -> x.clock() + " " + x.timer(0) + " " + x.base(0) + " "
                + x.measured(0));
        x.pass(11);
        Check.is("35, 36: the timer ran out, 17 is sent again", "37 59 17 -1", () -> x.clock() + " " + x.timer(0) + " "
                + x.base(0) + " " + x.measured(0));
        x.pass(2);
        Check.is("32, 33: the round of 18 is not measured", "19 23 9", () -> x.base(0) + " " + x.round(0) + " " + x.swing(0));
    }

    /** Term 7: "THRESHOLD becomes (NEXT - BASE) * 4, at least 16, W becomes 8, LIKE 0, RECOVER NEXT - 1". */
    private static void leastThresholdOfTimer() {
        int[][] rows = {{1, 16}, {3, 16}, {4, 16}, {5, 20}, {9, 36}};
        for (int[] row : rows) {
            TidePost x = Scenes.grown();
            x.give(0, 0, row[0]);
            x.lose(0, 0, 9);
            x.pass(13);
            Check.is("35: the timer is due", "36 37", () -> x.clock() + " " + x.timer(0));
            x.pass(1);
            Check.is("28, 27, 30, 31: " + row[0] + " are not answered", row[1] + " 8 0 " + (15 + row[0]),
                    () -> x.threshold(0) + " " + x.window(0) + " " + x.like(0) + " " + x.recover(0));
        }
        TidePost x = Scenes.grown();
        x.give(0, 0, 16);
        x.lose(0, 0, 9);
        x.pass(8);
        x.lose(0, 0, 9);
        x.pass(6);
        Check.is("28: 16 are not answered", "16 64", () -> x.next(0) - x.base(0) + " " + x.threshold(0));
        TidePost y = Scenes.grown();
        y.give(0, 0, 3);
        y.lose(0, 0, 1);
        y.pass(13);
        Check.is("30: two like answers", "36 2", () -> y.clock() + " " + y.like(0));
        y.pass(1);
        Check.is("30: LIKE becomes 0", "0 16", () -> y.like(0) + " " + y.threshold(0));
    }

    /** Term 7: "TIMEOUT is doubled, 60 at most": from 30 to 60, and from 60 no more. */
    private static void doubledToSixty() {
        TidePost x = Scenes.grownFar();
        Check.is("34: timeout(0)", 30, () -> x.timeout(0));
        x.give(0, 0, 1);
        x.lose(0, 0, 2);
        x.pass(31);
        Check.is("34, 35: at 150", "60 210", () -> x.timeout(0) + " " + x.timer(0));
        Scenes.pass(x, 59);
        Check.is("37: at 209", 1, () -> x.tries(0));
        x.pass(1);
        Check.is("34, 35, 37: at 210", "60 270 2", () -> x.timeout(0) + " " + x.timer(0) + " " + x.tries(0));
    }

    /** The timer of one that is CALLING: HELLO is sent at 0, 12, 36, 84, 144 and 204, and W and THRESHOLD stay. */
    private static void helloDoubled() {
        TidePost x = Scenes.pair(1);
        x.lose(0, 0, 9);
        x.call(0, 1, 7);
        int[][] rows = {{11, 12, 12, 0}, {12, 24, 36, 1}, {35, 24, 36, 1}, {36, 48, 84, 2}, {83, 48, 84, 2}, {84, 60, 144, 3},
            {143, 60, 144, 3}, {144, 60, 204, 4}, {204, 60, 264, 5}, {263, 60, 264, 5}, {264, 60, -1, 6}};
        for (int[] row : rows) {
            Scenes.pass(x, row[0] - x.clock());
            Check.is("34, 35, 37: at " + row[0], row[1] + " " + row[2] + " " + row[3], () -> x.timeout(0) + " " + x.timer(0)
                    + " " + x.tries(0));
            int state = row[3] == 6 ? 3 : 0;
            Check.is("23 to 31, 38: at " + row[0], state + " 0 0 0 8 128 7 0 -1 0", () -> Scenes.caller(x, 0) + " "
                    + x.sentAgain(0));
        }
        Check.is("20: six HELLOs", 6, x::lost);
    }

    /** Term 7: "if that is 6, the connection is BROKEN", and "not of one that is BROKEN". */
    private static void sixthTry() {
        TidePost x = Scenes.grown();
        x.give(0, 0, 1);
        x.lose(0, 0, 9);
        int[][] rows = {{37, 26, 63, 1}, {63, 52, 115, 2}, {115, 60, 175, 3}, {175, 60, 235, 4}, {235, 60, 295, 5}};
        for (int[] row : rows) {
            Scenes.pass(x, row[0] - x.clock());
            Check.is("34 to 38: at " + row[0], "24 10 " + row[1] + " " + row[2] + " -1 " + row[3] + " " + row[3],
                    () -> Scenes.timing(x, 0));
        }
        Scenes.pass(x, 59);
        Check.is("23: open at 294", 1, () -> x.stateOf(0));
        x.pass(1);
        Check.is("23: broken at 295", "3 17 16 17 8 16 16 0 16", () -> Scenes.caller(x, 0));
        Check.is("34 to 38: at 295", "24 10 60 -1 -1 6 5", () -> Scenes.timing(x, 0));
        Check.is("20: sent six times", 6, x::lost);
        Scenes.pass(x, 100);
        Check.is("34 to 38: for good", "24 10 60 -1 -1 6 5 6", () -> Scenes.timing(x, 0) + " " + x.lost());
    }

    private static void answerAtTheFifthTry() {
        TidePost x = Scenes.grown();
        x.give(0, 0, 1);
        x.lose(0, 0, 5);
        Scenes.pass(x, 213);
        Check.is("37: at 236", 5, () -> x.tries(0));
        x.pass(1);
        Check.is("23 to 31: at 237", "1 17 17 17 16 16 15 0 -1", () -> Scenes.caller(x, 0));
        Check.is("34 to 38: TIMEOUT stays", "24 10 60 -1 -1 0 5", () -> Scenes.timing(x, 0));
        x.give(0, 0, 1);
        x.lose(0, 0, 1);
        Scenes.pass(x, 61);
        Check.is("37: counted from 0 again", "298 1 1", () -> x.clock() + " " + x.tries(0) + " " + x.stateOf(0));
    }

    /**
     * Term 5: "At a connection that is CLOSED or BROKEN an ANSWER has no effect; its callee goes on as said." The way is 63
     * ticks long, so the last THING 0, sent at 487, comes at 550, as its caller has been BROKEN since 547.
     */
    private static void calleeOfABrokenOne() {
        TidePost x = Scenes.line(8, 9);
        x.call(0, 7, 1);
        x.give(0, 5, 1);
        Scenes.pass(x, 126);
        x.lose(0, 0, 6);
        Scenes.pass(x, 420);
        Check.is("23, 37: at 546", "1 5", () -> x.stateOf(0) + " " + x.tries(0));
        x.pass(1);
        Check.is("23: broken", "3 1 0 1 8 16 1 0 0", () -> Scenes.caller(x, 0));
        x.pass(2);
        Check.is("39: at 549", "0 0 0", () -> Scenes.callee(x, 0));
        x.pass(1);
        Check.is("39: at 550", "1 1 0", () -> Scenes.callee(x, 0));
        Check.is("18: it is answered", 1, () -> x.flying(6, 1));
        Scenes.pass(x, 62);
        Check.is("21: at 612", 1, x::underWay);
        x.pass(1);
        Check.is("21: at 613", 0, x::underWay);
        Check.is("23 to 31: nothing is changed", "3 1 0 1 8 16 1 0 0", () -> Scenes.caller(x, 0));
        Check.is("32 to 38: nothing is changed", "0 0 60 -1 -1 6 6", () -> Scenes.timing(x, 0));
        Check.is("9: what came can be read", 5, () -> x.read(0, 1));
        Check.is("9: and an answer is sent", "1 6", () -> x.underWay() + " " + x.lost());
    }
}
