/** Promises 6 to 10 and 22 to 43: connections, and what is asked of them. The runs were worked out by hand. */
public final class TransportTest {
    public static void main(String[] args) {
        call();
        callWrong();
        give();
        close();
        read();
        byeNeedsNoRoom();
        passWrong();
        wrongConnections();
        begin();
        roomRunsOut();
        guessedLost();
        measuredLost();
        broken();
        brokenOpen();
        greatestWindow();
        holds();
        answersAfterClosed();
        meanWindow();
        Check.end();
    }

    private static void call() {
        TidePost x = Scenes.pair(1);
        x.pass(3);
        Check.is("6: call(0, 1, 16)", 0, () -> x.call(0, 1, 16));
        Check.is("6: call(1, 0, 1)", 1, () -> x.call(1, 0, 1));
        Check.is("22: connections()", 2, x::connections);
        Check.is("23 to 31: at first", "0 0 0 0 8 128 16 0 -1", () -> Scenes.caller(x, 0));
        Check.is("29: room(1)", 1, () -> x.room(1));
        Check.is("32 to 38: at first", "0 0 12 15 -1 0 0", () -> Scenes.timing(x, 0));
        Check.is("39, 41, 42: at first", "0 0 0", () -> Scenes.callee(x, 0));
        Check.is("6: HELLO is queued at once", "1 1", () -> x.queued(0, 0) + " " + x.queued(0, 1));
        for (int i = 2; i < 6; i++) {
            int number = i;
            Check.is("6: call()", number, () -> x.call(0, 1, 1));
        }
        Check.state("6: the seventh", () -> x.call(0, 1, 1));
        Check.argument("6: the seventh, and buffer", () -> x.call(0, 1, 0));
        Check.index("6: the seventh, buffer and node", () -> x.call(0, 2, 0));
        Check.is("22: connections()", 6, x::connections);
        Check.is("6: no HELLO of what was not made", 5, () -> x.queued(0, 0));
    }

    private static void callWrong() {
        TidePost x = Scenes.pair(1);
        Check.index("6: caller -1", () -> x.call(-1, 1, 1));
        Check.index("6: caller 2", () -> x.call(2, 1, 1));
        Check.index("6: callee -1", () -> x.call(1, -1, 1));
        Check.index("6: callee 2", () -> x.call(1, 2, 1));
        Check.index("6: both 2", () -> x.call(2, 2, 1));
        Check.argument("6: both the same", () -> x.call(1, 1, 1));
        Check.argument("6: buffer 0", () -> x.call(0, 1, 0));
        Check.argument("6: buffer 17", () -> x.call(0, 1, 17));
        Check.is("22: none was made", 0, x::connections);
        Check.is("21: none was sent", 0, x::underWay);
    }

    private static void give() {
        TidePost x = Scenes.pair(1);
        x.call(0, 1, 16);
        Check.is("7: give(0, 7, 1)", 1, () -> x.give(0, 7, 1));
        Check.is("7: give(0, 9, 50)", 51, () -> x.give(0, 9, 50));
        Check.is("24: given(0)", 51, () -> x.given(0));
        Check.index("7: connection 1", () -> x.give(1, 0, 0));
        Check.index("7: connection -1", () -> x.give(-1, 0, 1));
        Check.argument("7: many 0", () -> x.give(0, 0, 0));
        Check.argument("7: many 51", () -> x.give(0, 0, 51));
        Check.argument("7: many of the least", () -> x.give(0, 0, Integer.MIN_VALUE));
        x.give(0, 0, 50);
        x.give(0, 0, 50);
        Check.state("7: 201", () -> x.give(0, 0, 50));
        Check.is("24: given(0)", 151, () -> x.given(0));
        Check.is("7: 200", 200, () -> x.give(0, 0, 49));
        Check.state("7: one more", () -> x.give(0, 0, 1));
        Check.argument("7: many ahead of state", () -> x.give(0, 0, 51));
        x.call(1, 0, 16);
        x.close(1);
        Check.state("7: told to close", () -> x.give(1, 0, 1));
        Check.is("24: given(1)", 0, () -> x.given(1));
    }

    private static void close() {
        TidePost x = Scenes.pair(1);
        x.call(0, 1, 16);
        x.give(0, 10, 2);
        x.pass(5);
        Check.is("25: base(0)", 1, () -> x.base(0));
        Check.is("8: one piece and BYE", 2, () -> x.close(0));
        Check.state("8: twice", () -> x.close(0));
        Check.index("8: connection 1", () -> x.close(1));
        Check.index("8: connection -1", () -> x.close(-1));
        // piece 1 went at 5 and is answered at 7; BYE, sent at 6, takes off at 6 and is answered at 8
        x.pass(1);
        Check.is("26: BYE is sent", 3, () -> x.next(0));
        x.pass(1);
        Check.is("23: still open", "1 2", () -> x.stateOf(0) + " " + x.base(0));
        x.pass(1);
        Check.is("23: closed", "2 3", () -> x.stateOf(0) + " " + x.base(0));
        Check.is("35: without a timer", -1, () -> x.timer(0));
        Check.is("39, 41, 42: BYE is no piece", "3 2 0", () -> Scenes.callee(x, 0));
        Check.state("8: closed", () -> x.close(0));
        Check.state("7: closed", () -> x.give(0, 0, 1));
        Check.is("9: what a closed one sent can be read", 21, () -> x.read(0, 50));
        Check.state("9: BYE can not", () -> x.read(0, 1));
        x.call(0, 1, 1);
        Check.is("8: while calling, with nothing", 1, () -> x.close(1));
        x.pass(20);
        Check.is("23: closed by BYE alone", "2 0 1 1", () -> x.stateOf(1) + " " + x.given(1) + " " + x.base(1) + " " + x.next(1));
    }

    private static void read() {
        TidePost x = Scenes.pair(1);
        x.call(0, 1, 4);
        x.give(0, Integer.MAX_VALUE - 1, 10);
        Check.state("9: nothing is there", () -> x.read(0, 50));
        x.pass(9);
        Check.is("39, 41, 42: four came", "4 4 0", () -> Scenes.callee(x, 0));
        Check.argument("9: most 0", () -> x.read(0, 0));
        Check.argument("9: most 51", () -> x.read(0, 51));
        Check.index("9: connection 1", () -> x.read(1, 0));
        Check.index("9: connection -1", () -> x.read(-1, 1));
        int onTheWay = x.underWay();
        Check.is("9: wrapped around", -3, () -> x.read(0, 2));
        Check.is("39, 41, 42: two are left", "4 2 2", () -> Scenes.callee(x, 0));
        Check.is("9: an answer tells of the room", onTheWay + 1, x::underWay);
        Check.is("9: values wrapped around", Integer.MIN_VALUE, () -> x.read(0, 1));
        Check.is("9: the room was not 0", onTheWay + 1, x::underWay);
        Check.is("9: the last one", Integer.MIN_VALUE + 1, () -> x.read(0, 50));
        Check.state("9: none is left", () -> x.read(0, 1));
        Check.argument("9: most ahead of state", () -> x.read(0, 0));
        Check.is("42: hasRead(0)", 4, () -> x.hasRead(0));
        readBehindBye();
    }

    /** BYE needs no room: behind it the room can be 0 after a read as well, and then no answer is sent. */
    private static void readBehindBye() {
        TidePost x = Scenes.pair(1);
        x.call(0, 1, 1);
        x.give(0, 5, 1);
        x.close(0);
        x.pass(10);
        Check.is("23, 39: closed", "2 2", () -> x.stateOf(0) + " " + x.wanted(0));
        int onTheWay = x.underWay();
        Check.is("9: read(0, 1)", 5, () -> x.read(0, 1));
        Check.is("9: no answer, the room is 0 still", onTheWay, x::underWay);
    }

    /** BYE is sent though there is no room; a piece would have to wait. */
    private static void byeNeedsNoRoom() {
        TidePost x = Scenes.pair(1);
        x.call(0, 1, 2);
        x.give(0, 1, 2);
        x.close(0);
        x.pass(6);
        Check.is("26, 29: 1 is sent, BYE as well", "1 2 1 3 16 128 1 0 -1", () -> Scenes.caller(x, 0));
        x.pass(2);
        Check.is("23, 39: closed, and READ + BUFFER is no bound", "2 3 2", () -> x.stateOf(0) + " " + x.wanted(0) + " "
                + x.readable(0));
        Check.is("20: lost()", 0, x::lost);
    }

    private static void passWrong() {
        TidePost x = Scenes.pair(1);
        for (int wrong : new int[] {0, 51, -1, Integer.MAX_VALUE}) {
            Check.argument("10: pass(" + wrong + ")", () -> x.pass(wrong));
        }
        Check.is("11: clock()", 0, x::clock);
        Check.is("10: pass(1)", 1, () -> x.pass(1));
        Check.is("10: pass(50)", 51, () -> x.pass(50));
        Check.is("11: clock()", 51, x::clock);
    }

    private static void wrongConnections() {
        TidePost x = Scenes.pair(1);
        x.call(0, 1, 1);
        for (int c : new int[] {-1, 1, 6, Integer.MIN_VALUE, Integer.MAX_VALUE}) {
            Check.index("23: stateOf()", () -> x.stateOf(c));
            Check.index("24: given()", () -> x.given(c));
            Check.index("25: base()", () -> x.base(c));
            Check.index("26: next()", () -> x.next(c));
            Check.index("27: window()", () -> x.window(c));
            Check.index("28: threshold()", () -> x.threshold(c));
            Check.index("29: room()", () -> x.room(c));
            Check.index("30: like()", () -> x.like(c));
            Check.index("31: recover()", () -> x.recover(c));
            Check.index("32: round()", () -> x.round(c));
            Check.index("33: swing()", () -> x.swing(c));
            Check.index("34: timeout()", () -> x.timeout(c));
            Check.index("35: timer()", () -> x.timer(c));
            Check.index("36: measured()", () -> x.measured(c));
            Check.index("37: tries()", () -> x.tries(c));
            Check.index("38: sentAgain()", () -> x.sentAgain(c));
            Check.index("39: wanted()", () -> x.wanted(c));
            Check.index("40: holds()", () -> x.holds(c, 0));
            Check.index("41: readable()", () -> x.readable(c));
            Check.index("42: hasRead()", () -> x.hasRead(c));
        }
    }

    /** HELLO, its answer, the first THING, its answer: as the ticks go in the terms 4 to 6. */
    private static void begin() {
        TidePost x = Scenes.pair(1);
        x.call(0, 1, 4);
        x.give(0, 100, 10);
        x.pass(2);
        Check.is("23: calling", "0 10 0 0 8 128 4 0 -1", () -> Scenes.caller(x, 0));
        Check.is("18: the answer flies", 1, () -> x.flying(0, 1));
        x.pass(1);
        Check.is("23: open, THING 0 sent", "1 10 0 1 8 128 4 0 -1", () -> Scenes.caller(x, 0));
        Check.is("35, 36: timer and measured", "0 0 12 15 0 0 0", () -> Scenes.timing(x, 0));
        x.pass(1);
        Check.is("39: wanted", "1 1 0", () -> Scenes.callee(x, 0));
        x.pass(1);
        Check.is("25 to 29: answered, two sent", "1 10 1 3 16 128 3 0 -1", () -> Scenes.caller(x, 0));
        Check.is("32 to 36: first guess", "16 4 6 11 1 0 0", () -> Scenes.timing(x, 0));
        x.pass(2);
        Check.is("25 to 29: 3 is sent", "1 10 2 4 24 128 2 0 -1", () -> Scenes.caller(x, 0));
        Check.is("32 to 36: a better guess", "16 3 5 12 3 0 0", () -> Scenes.timing(x, 0));
        x.pass(1);
        Check.is("25 to 29: no room for 4", "1 10 3 4 32 128 1 0 -1", () -> Scenes.caller(x, 0));
        Check.is("35: the timer is set anew", "16 3 5 13 3 0 0", () -> Scenes.timing(x, 0));
        x.pass(1);
        Check.is("25 to 29: without room, but all is answered", "1 10 4 5 40 128 0 0 -1", () -> Scenes.caller(x, 0));
        Check.is("32 to 36: measured again", "16 3 5 14 4 0 0", () -> Scenes.timing(x, 0));
    }

    private static void roomRunsOut() {
        TidePost x = Scenes.pair(1);
        x.call(0, 1, 4);
        x.give(0, 100, 10);
        x.pass(10);
        Check.is("20: there is no place for 4", 1, x::lost);
        Check.is("39: wanted", "4 4 0", () -> Scenes.callee(x, 0));
        x.pass(1);
        Check.is("30: 0 is not like 0", "1 10 4 5 40 128 0 0 -1", () -> Scenes.caller(x, 0));
        Check.is("9: read(0, 50)", 406, () -> x.read(0, 50));
        Check.is("17: the answer is queued", 1, () -> x.queued(0, 1));
        x.pass(2);
        Check.is("29: the room is known, 5 to 7 are sent", "1 10 4 8 40 128 4 0 -1", () -> Scenes.caller(x, 0));
        Check.is("36: measured still", "16 3 5 14 4 0 0", () -> Scenes.timing(x, 0));
        x.pass(1);
        Check.is("27, 28, 31: the timer ran out", "1 10 4 8 8 16 4 0 7", () -> Scenes.caller(x, 0));
        Check.is("34 to 38: the timer ran out", "16 3 10 24 -1 1 1", () -> Scenes.timing(x, 0));
        Check.is("40: 5 is held", "false true false", () -> x.holds(0, 4) + " " + x.holds(0, 5) + " " + x.holds(0, 6));
        x.pass(1);
        Check.is("30: like 1, tries 0", "1 0", () -> x.like(0) + " " + x.tries(0));
        x.pass(2);
        Check.is("30: like 3, in recovery", "1 10 4 8 8 16 4 3 7", () -> Scenes.caller(x, 0));
        Check.is("38: not sent again for that", "16 3 10 24 -1 0 1", () -> Scenes.timing(x, 0));
        Check.is("39: all is there", "8 4 4", () -> Scenes.callee(x, 0));
        Check.is("40: none is held", false, () -> x.holds(0, 5) || x.holds(0, 7));
        x.pass(1);
        Check.is("31: recovered", "1 10 8 9 16 16 0 0 -1", () -> Scenes.caller(x, 0));
        Check.is("36: 8 is measured", "16 3 10 28 8 0 1", () -> Scenes.timing(x, 0));
    }

    /** One piece is lost; the third like answer makes the caller send it again. */
    private static void guessedLost() {
        TidePost x = Scenes.pair(1);
        x.call(0, 1, 16);
        x.give(0, 0, 50);
        x.pass(12);
        Check.is("25 to 29: at 12", "1 50 7 15 64 128 9 0 -1", () -> Scenes.caller(x, 0));
        x.lose(0, 0, 1);
        // 9 is lost at 13; 10, 11 and 12 fly at 14, 15 and 16, and are answered at 16, 17 and 18
        x.pass(5);
        Check.is("30: like 2", "1 50 9 16 80 128 7 2 -1", () -> Scenes.caller(x, 0));
        Check.is("20: lost()", 1, x::lost);
        Check.is("32 to 38: nothing sent again", "18 5 7 21 15 0 0", () -> Scenes.timing(x, 0));
        x.pass(1);
        Check.is("30, 31: like 3, 9 sent again", "1 50 9 16 28 28 7 3 15", () -> Scenes.caller(x, 0));
        Check.is("32 to 38: 15 is measured still", "18 5 7 21 15 0 1", () -> Scenes.timing(x, 0));
        Check.is("17: behind the others", 2, () -> x.queued(0, 0));
        x.pass(1);
        Check.is("30: like 4, only once sent again", "1 50 9 16 28 28 7 4 15", () -> Scenes.caller(x, 0));
        x.pass(2);
        Check.is("30: the timer ran out", "1 50 9 16 8 28 7 0 15", () -> Scenes.caller(x, 0));
        Check.is("32 to 38: the timer ran out", "18 5 14 35 -1 1 2", () -> Scenes.timing(x, 0));
        x.pass(1);
        Check.is("31: recovered", "1 50 16 17 16 28 0 0 -1", () -> Scenes.caller(x, 0));
    }

    /** As above, but what is lost is MEASURED, and a second one is lost behind it. */
    private static void measuredLost() {
        TidePost x = Scenes.pair(1);
        x.call(0, 1, 16);
        x.give(0, 0, 50);
        x.pass(10);
        Check.is("25 to 29: at 10", "1 50 5 11 48 128 11 0 -1", () -> Scenes.caller(x, 0));
        Check.is("36: measured(0)", 7, () -> x.measured(0));
        x.lose(0, 0, 1);
        x.pass(6);
        Check.is("30, 31: like 3, 7 sent again", "1 50 7 15 32 32 9 3 14", () -> Scenes.caller(x, 0));
        Check.is("36: 7 is measured no more", "16 3 5 17 -1 0 1", () -> Scenes.timing(x, 0));
        x.lose(0, 0, 2);
        // 13 and 14 are lost; 7 flies at 19, and once more, as the timer runs out at 17, at 20
        x.pass(1);
        Check.is("38: the timer ran out", "16 3 10 27 -1 1 2", () -> Scenes.timing(x, 0));
        x.pass(4);
        Check.is("25 to 31: 13 is sent again", "1 50 13 15 8 32 3 0 14", () -> Scenes.caller(x, 0));
        Check.is("35, 38: 13 is sent again", "16 3 10 31 -1 0 3", () -> Scenes.timing(x, 0));
        Check.is("36: nothing is measured", -1, () -> x.measured(0));
    }

    /** HELLO goes at 0, 12, 36, 84, 144 and 204; at 264 the caller gives up. */
    private static void broken() {
        TidePost x = Scenes.pair(1);
        x.turn(0);
        x.call(0, 1, 5);
        x.give(0, 0, 3);
        x.pass(12);
        Check.is("34 to 37: at 12", "0 0 24 36 -1 1 0", () -> Scenes.timing(x, 0));
        x.pass(24);
        Check.is("34 to 37: at 36", "0 0 48 84 -1 2 0", () -> Scenes.timing(x, 0));
        x.pass(48);
        Check.is("34 to 37: at 84", "0 0 60 144 -1 3 0", () -> Scenes.timing(x, 0));
        for (int i = 0; i < 3; i++) {
            x.pass(50);
        }
        x.pass(29);
        Check.is("34 to 37: at 263", "0 0 60 264 -1 5 0", () -> Scenes.timing(x, 0));
        Check.is("23: calling", 0, () -> x.stateOf(0));
        Check.is("20: six HELLO", 6, x::lost);
        x.pass(1);
        Check.is("23: broken", "3 3 0 0 8 128 5 0 -1", () -> Scenes.caller(x, 0));
        Check.is("34 to 37: at 264", "0 0 60 -1 -1 6 0", () -> Scenes.timing(x, 0));
        Check.is("20: no seventh one", 6, x::lost);
        Check.state("7: broken", () -> x.give(0, 0, 1));
        Check.state("8: broken", () -> x.close(0));
        x.turn(0);
        x.pass(50);
        Check.is("21: nothing is sent any more", "0 0", () -> x.underWay() + " " + x.flown(0, 0));
    }

    private static void brokenOpen() {
        TidePost x = Scenes.pair(9);
        x.call(0, 1, 16);
        x.give(0, 1, 2);
        x.pass(20);
        Check.is("23: open", "1 0 1 43", () -> x.stateOf(0) + " " + x.base(0) + " " + x.next(0) + " " + x.timer(0));
        x.lose(0, 1, 9);
        // 0 is sent at 19, 43, 91, 151, 211 and 271; with the one to the second HELLO seven answers are lost
        for (int i = 0; i < 6; i++) {
            x.pass(50);
        }
        x.pass(10);
        Check.is("34 to 38: at 330", "0 0 60 331 -1 5 5", () -> Scenes.timing(x, 0));
        x.pass(1);
        Check.is("23: broken", "3 2 0 1 8 16 16 0 0", () -> Scenes.caller(x, 0));
        Check.is("34 to 38: at 331", "0 0 60 -1 -1 6 5", () -> Scenes.timing(x, 0));
        Check.is("20: lost()", 7, x::lost);
        Check.is("5: it is still to lose two", 2, () -> x.lose(0, 1, 0));
        Check.is("9: what came can be read", 1, () -> x.read(0, 9));
    }

    /** Each piece is answered alone, and each answer lets the window grow: by 8 below 128, by 1 then, to 256 at most. */
    private static void greatestWindow() {
        TidePost x = Scenes.pair(1);
        x.call(0, 1, 16);
        for (int i = 0; i < 4; i++) {
            x.give(0, 0, 50);
        }
        for (int i = 0; i < 56; i++) {
            x.pass(4);
            int base = x.base(0);
            int due = base <= 15 ? 8 + 8 * base : Math.min(256, 113 + base);
            Check.is("27: window(0) as " + base + " are answered", due, () -> x.window(0));
            if (x.readable(0) > 0) {
                x.read(0, 50);
            }
        }
        Check.is("25: all is answered", 200, () -> x.base(0));
        Check.is("27: 256 at most", 256, () -> x.window(0));
        Check.is("38: nothing was sent again", 0, () -> x.sentAgain(0));
        Check.is("35: no timer", -1, () -> x.timer(0));
        Check.is("42: hasRead(0)", 200, () -> x.hasRead(0));
    }

    private static void holds() {
        TidePost x = Scenes.pair(1);
        x.call(0, 1, 16);
        x.give(0, 0, 3);
        x.pass(5);
        x.close(0);
        x.lose(0, 0, 1);
        // 1 flew at 5; 2 is lost at 6, BYE, with the number 3, flies at 7
        x.pass(3);
        Check.is("40: BYE is held", true, () -> x.holds(0, 3));
        Check.is("40: what is wanted is not", false, () -> x.holds(0, 2));
        Check.is("39, 41: 2 is wanted", "2 2 0", () -> Scenes.callee(x, 0));
        for (int none : new int[] {-1, 0, 4, 200, 201, 500, Integer.MAX_VALUE, Integer.MIN_VALUE}) {
            Check.is("40: holds(0, " + none + ")", false, () -> x.holds(0, none));
        }
        x.pass(30);
        Check.is("23: closed at last", 2, () -> x.stateOf(0));
        Check.is("40: nothing is held", false, () -> x.holds(0, 3));
    }

    private static void answersAfterClosed() {
        TidePost x = Scenes.pair(1);
        x.call(0, 1, 1);
        x.give(0, 5, 1);
        x.pass(5);
        Check.is("29: room 0, told by the answer to 0", "1 1 1 1 16 128 0 0 -1", () -> Scenes.caller(x, 0));
        x.read(0, 1);
        x.pass(2);
        Check.is("29: room 1, told by the read", "1 1 1 1 16 128 1 0 -1", () -> Scenes.caller(x, 0));
        x.close(0);
        x.pass(3);
        Check.is("23: closed", "2 1 2 2 24 128 0 0 -1", () -> Scenes.caller(x, 0));
        x.pass(10);
        Check.is("23: for good", "2 1 2 2 24 128 0 0 -1", () -> Scenes.caller(x, 0));
    }

    private static void meanWindow() {
        TidePost x = Scenes.pair(1);
        x.call(0, 1, 16);
        Check.is("43: none is open", 0.0, x::meanWindow);
        x.give(0, 0, 20);
        x.pass(6);
        x.call(1, 0, 16);
        Check.is("43: one is open", 16.0, x::meanWindow);
        x.call(0, 1, 1);
        x.pass(12);
        Check.is("43: three are open, not cut", (x.window(0) + 8 + 8) / 3.0, x::meanWindow);
        Check.is("43: that is no whole number", true, () -> x.window(0) % 3 != 2);
        x.close(1);
        x.pass(20);
        Check.is("23: one is closed", 2, () -> x.stateOf(1));
        Check.is("43: without the closed one", (x.window(0) + 8) / 2.0, x::meanWindow);
    }
}
