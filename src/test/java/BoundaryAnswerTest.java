/** The boundaries that the term 5 names: what arrives at the callee, and what its answers do at the caller. */
public final class BoundaryAnswerTest {
    public static void main(String[] args) {
        cameBefore();
        placeAtTheCallee();
        byeWithoutPlace();
        severalHeld();
        helloAnsweredTwice();
        nothingToAnswer();
        oldAnswer();
        measuredBelowWanted();
        roundMuchShorter();
        greatestTimeout();
        answeredToRecover();
        answeredBehindRecover();
        grownByEight();
        grownByLess();
        timerOfTheRest();
        thirdLikeAnswer();
        thirdLikeAnswerInRecovery();
        unlikeAnswer();
        noRoomIsNotLike();
        leastThresholdOfLike();
        answerAtAClosedOne();
        byeSentAgain();
        Check.end();
    }

    /** "if n is less than WANTED [..] it has no effect", but is answered. */
    private static void cameBefore() {
        TidePost x = Scenes.pair(1);
        x.call(0, 1, 4);
        x.give(0, 5, 1);
        x.pass(3);
        x.lose(0, 1, 1);
        x.pass(12);
        Check.is("39, 41: it came, its answer is lost", "1 1 0 1", () -> Scenes.callee(x, 0) + " " + x.lost());
        x.pass(1);
        Check.is("39, 41: it came again", "1 1 0 1", () -> Scenes.callee(x, 0) + " " + x.lost());
        Check.is("19: and is answered", 2, () -> x.flown(0, 1));
        x.pass(1);
        Check.is("25: that tells the caller", "1 1 1 1 16 16 3 0 -1", () -> Scenes.caller(x, 0));
    }

    /** "if it is DATA, and n is not less than READ + BUFFER, it is LOST"; each is answered. */
    private static void placeAtTheCallee() {
        TidePost x = twoPlaces();
        Check.is("39: 1 is less than 2", "2 2 0", () -> Scenes.callee(x, 0));
        x.pass(1);
        Check.is("20, 39: 2 is not", "2 2 0 1", () -> Scenes.callee(x, 0) + " " + x.lost());
        Check.is("19: it is answered", 4, () -> x.flown(0, 1));
        TidePost y = twoPlaces();
        y.read(0, 1);
        y.pass(1);
        Check.is("20, 39: 2 is less than 1 + 2", "3 2 1 0", () -> Scenes.callee(y, 0) + " " + y.lost());
        TidePost z = Scenes.pair(1);
        z.call(0, 1, 4);
        z.give(0, 0, 5);
        z.pass(5);
        z.lose(0, 0, 1);
        z.pass(3);
        // 2 took off at 6, to be lost; 3 came at 8
        Check.is("20, 39, 40: 3 is less than 4", "2 true 1", () -> z.wanted(0) + " " + z.holds(0, 3) + " " + z.lost());
    }

    /** A callee with the BUFFER 2, at the clock 7: 0 and 1 came, 2 is in flight. */
    private static TidePost twoPlaces() {
        TidePost x = Scenes.pair(1);
        x.call(0, 1, 2);
        x.give(0, 0, 4);
        x.pass(7);
        return x;
    }

    /** The bound is for DATA: BYE, with the number 2, is HELD where 1 is LOST. */
    private static void byeWithoutPlace() {
        TidePost x = Scenes.pair(1);
        x.call(0, 1, 1);
        x.give(0, 3, 2);
        x.close(0);
        x.pass(6);
        Check.is("20, 39: 1 is not less than 0 + 1", "1 1 0 1", () -> Scenes.callee(x, 0) + " " + x.lost());
        x.pass(1);
        Check.is("40: BYE is held", "false true 1", () -> x.holds(0, 1) + " " + x.holds(0, 2) + " " + x.lost());
        Check.is("9: read(0, 1)", 3, () -> x.read(0, 1));
        x.pass(5);
        Check.is("39, 40: 1 is sent again, and BYE held no more", "3 1 1 false", () -> Scenes.callee(x, 0) + " "
                + x.holds(0, 2));
        x.pass(1);
        Check.is("23: closed", "2 3 3", () -> x.stateOf(0) + " " + x.base(0) + " " + x.next(0));
    }

    /** "as long as WANTED is HELD": from 16 to 21 at once. */
    private static void severalHeld() {
        TidePost x = firstOfFiveLost();
        x.pass(6);
        Check.is("39, 40: the others are held", "16 false true true false", () -> x.wanted(0) + " " + x.holds(0, 16) + " "
                + x.holds(0, 17) + " " + x.holds(0, 20) + " " + x.holds(0, 21));
        x.pass(1);
        Check.is("39, 40: all came", "21 false false false false", () -> x.wanted(0) + " " + x.holds(0, 16) + " "
                + x.holds(0, 17) + " " + x.holds(0, 20) + " " + x.holds(0, 21));
        Check.is("41: they can be read", 5, () -> x.readable(0));
        Check.is("9: in their order", 500, () -> x.read(0, 1));
    }

    /** A grown caller, at the clock 23, with five more pieces, 16 to 20, of which the first one will be lost. */
    private static TidePost firstOfFiveLost() {
        TidePost x = Scenes.grown();
        x.give(0, 500, 5);
        x.lose(0, 0, 1);
        return x;
    }

    /** The HELLO of the tick 12 is answered at 30: w is BASE, NEXT is greater, and r is 1, as little as is above 0. */
    private static void helloAnsweredTwice() {
        TidePost x = Scenes.pair(9);
        x.call(0, 1, 1);
        x.give(0, 5, 1);
        x.pass(29);
        Check.is("30: at 29", "1 1 0 1 8 128 1 0 -1", () -> Scenes.caller(x, 0));
        x.pass(1);
        Check.is("30: at 30", "1 1 0 1 8 128 1 1 -1", () -> Scenes.caller(x, 0));
    }

    /** "If w is BASE, and NEXT is not greater: ROOM becomes r." */
    private static void nothingToAnswer() {
        TidePost x = Scenes.pair(9);
        x.call(0, 1, 1);
        x.pass(30);
        Check.is("30: at 30, with nothing sent", "1 0 0 0 8 128 1 0 -1", () -> Scenes.caller(x, 0));
        TidePost y = Scenes.pair(1);
        Scenes.grow(y, 0);
        Check.is("29: nothing was read", "1 16 16 16 129 128 0 0 -1", () -> Scenes.caller(y, 0));
        y.read(0, 5);
        y.pass(1);
        Check.is("29: the answer flies", 0, () -> y.room(0));
        y.pass(1);
        Check.is("29: it tells of five places", "1 16 16 16 129 128 5 0 -1", () -> Scenes.caller(y, 0));
    }

    /**
     * "and w is BASE or more". The HELLOs of 0, 12 and 36 go the long way, of 18 ticks; as the first answer is back, at 37,
     * there is a short one, over which 0 is sent and answered. Then the answer to the second HELLO comes, with w 0.
     */
    private static void oldAnswer() {
        TidePost x = Scenes.nodes(3);
        x.addLink(0, 2, 9, 20);
        x.addLink(2, 1, 9, 20);
        x.addLink(0, 1, 1, 20);
        x.turn(2);
        x.call(0, 1, 4);
        x.give(0, 0, 3);
        x.pass(36);
        x.turn(2);
        x.pass(2);
        x.lose(2, 0, 9);
        x.pass(1);
        Check.is("25: 0 is answered at 39", "1 3 1 3 16 128 3 0 -1", () -> Scenes.caller(x, 0));
        x.pass(6);
        Check.is("37: the timer ran out at 45", "1 3 1 3 8 16 3 0 2 1", () -> Scenes.caller(x, 0) + " " + x.tries(0));
        x.pass(2);
        Check.is("18: the old answer flies", 1, () -> x.flying(0, 1));
        x.pass(1);
        Check.is("25 to 31, 37: w is less than BASE at 48", "1 3 1 3 8 16 3 0 2 1", () -> Scenes.caller(x, 0) + " "
                + x.tries(0));
        Check.is("18: it came", 0, () -> x.flying(0, 1));
        x.pass(7);
        Check.is("30, 37: w is BASE at 55", "1 3 1 3 8 16 3 1 2 0", () -> Scenes.caller(x, 0) + " " + x.tries(0));
    }

    /** "if MEASURED is a number less than w": 3 is not, as 2 is answered, and is, as 3 is. */
    private static void measuredBelowWanted() {
        TidePost x = Scenes.pair(1);
        x.call(0, 1, 16);
        x.give(0, 0, 10);
        x.pass(7);
        Check.is("25, 36: at 7", "2 3 16 3", () -> x.base(0) + " " + x.measured(0) + " " + x.round(0) + " " + x.swing(0));
        x.pass(1);
        Check.is("25, 36: w is MEASURED", "3 3 16 3", () -> x.base(0) + " " + x.measured(0) + " " + x.round(0) + " "
                + x.swing(0));
        x.pass(1);
        Check.is("25, 36: w is greater by 1; 7 is the next", "4 7 16 3", () -> x.base(0) + " " + x.measured(0) + " "
                + x.round(0) + " " + x.swing(0));
    }

    /** "SWING + |e| - SWING / 4", with an e below 0, and the divisions cut towards 0. */
    private static void roundMuchShorter() {
        TidePost x = Scenes.grown();
        String[] due = {"23 9 11", "23 7 9", "23 6 8", "23 5 7", "23 4 6", "23 3 5", "23 3 5"};
        for (String row : due) {
            x.give(0, 0, 1);
            x.pass(3);
            Check.is("32 to 34: after one more round of 2 ticks", row, () -> x.round(0) + " " + x.swing(0) + " "
                    + x.timeout(0));
        }
    }

    /** "TIMEOUT becomes ROUND / 8 + SWING, [..] at most 60": a first round of m ticks makes that 3 * m. */
    private static void greatestTimeout() {
        int[][] rows = {{9, 9, 54, 54}, {9, 1, 60, 60}, {9, 2, 66, 60}};
        for (int[] row : rows) {
            boolean direct = row[1] == 9;
            TidePost x = Scenes.nodes(3);
            x.addLink(0, direct ? 1 : 2, row[0], 20);
            x.addLink(2, direct ? 0 : 1, row[1], 20);
            x.call(0, 1, 16);
            x.give(0, 0, 1);
            int way = x.distance(0, 1);
            Scenes.pass(x, 1 + 4 * way);
            Check.is("32, 33, 34: a first round of " + 2 * way, 16 * way + " " + 4 * way + " " + row[3], () -> x.round(0) + " "
                    + x.swing(0) + " " + x.timeout(0));
            Check.is("uncut", row[2], () -> x.round(0) / 8 + x.swing(0));
        }
    }

    /** "if w is not greater than RECOVER, the THING BASE is sent again": w is RECOVER, as 16 and 20 of five are lost. */
    private static void answeredToRecover() {
        TidePost x = firstOfFiveLost();
        x.pass(4);
        x.lose(0, 0, 1);
        x.pass(2);
        Check.is("31, 38: 16 is sent again", "1 21 16 21 20 20 16 3 20 1", () -> Scenes.caller(x, 0) + " " + x.sentAgain(0));
        x.pass(2);
        Check.is("31, 38: w is 20, and so is RECOVER", "1 21 20 21 20 20 12 0 20 2", () -> Scenes.caller(x, 0) + " "
                + x.sentAgain(0));
        Check.is("35: the timer is set", 44, () -> x.timer(0));
        x.pass(2);
        Check.is("31, 38: w is 21", "1 21 21 21 23 20 11 0 -1 2", () -> Scenes.caller(x, 0) + " " + x.sentAgain(0));
    }

    /** "otherwise RECOVER becomes -1, and W grows": w is greater than RECOVER by 1, as only 16 is lost. */
    private static void answeredBehindRecover() {
        TidePost x = firstOfFiveLost();
        x.pass(7);
        Check.is("31, 38: 16 is sent again", "1 21 16 21 20 20 16 4 20 1", () -> Scenes.caller(x, 0) + " " + x.sentAgain(0));
        x.pass(1);
        Check.is("31, 38: w is 21, RECOVER was 20", "1 21 21 21 23 20 11 0 -1 1", () -> Scenes.caller(x, 0) + " "
                + x.sentAgain(0));
    }

    /** "W grows: by 8, if it is below THRESHOLD": 120 is, 128 is not. */
    private static void grownByEight() {
        TidePost x = Scenes.pair(1);
        x.call(0, 1, 16);
        x.give(0, 0, 16);
        int[][] rows = {{0, 8}, {1, 16}, {13, 112}, {14, 120}, {15, 128}, {16, 129}};
        int next = 0;
        for (int ticks = 1; ticks <= 21; ticks++) {
            x.pass(1);
            int base = x.base(0);
            if (next < rows.length && base == rows[next][0]) {
                int[] row = rows[next];
                Check.is("27: as " + base + " are answered", row[1], () -> x.window(0));
                next++;
            }
        }
        int seen = next;
        Check.is("27: each was seen", rows.length, () -> seen);
    }

    /** "otherwise by 64 / W, at least by 1": from a THRESHOLD of 16 on. */
    private static void grownByLess() {
        TidePost x = Scenes.pair(1);
        x.call(0, 1, 16);
        x.give(0, 0, 1);
        x.pass(2);
        x.lose(0, 0, 1);
        x.pass(13);
        Check.is("27, 28: the timer ran out", "8 16", () -> x.window(0) + " " + x.threshold(0));
        x.pass(2);
        Check.is("27: 8 was below 16", 16, () -> x.window(0));
        int[] due = {20, 23, 25, 27, 29, 31, 33, 34, 35};
        for (int window : due) {
            oneMore(x);
            Check.is("27: by 64 / W", window, () -> x.window(0));
        }
        for (int i = 0; i < 27; i++) {
            oneMore(x);
        }
        Check.is("27: 35 + 27", 62, () -> x.window(0));
        for (int window = 63; window <= 67; window++) {
            oneMore(x);
            Check.is("27: at least by 1", window, () -> x.window(0));
        }
    }

    private static void oneMore(TidePost x) {
        x.give(0, 0, 1);
        x.pass(3);
        x.read(0, 50);
    }

    /** "if BASE is NEXT, the timer is not set any more, otherwise it is set to the clock + TIMEOUT". */
    private static void timerOfTheRest() {
        TidePost x = Scenes.grown();
        x.give(0, 0, 3);
        x.pass(1);
        Check.is("35: 16 to 18 are sent at 24", 37, () -> x.timer(0));
        x.pass(2);
        Check.is("34, 35: 26 + 11", "17 19 11 37", () -> x.base(0) + " " + x.next(0) + " " + x.timeout(0) + " " + x.timer(0));
        x.pass(1);
        Check.is("34, 35: 27 + 11", "18 19 11 38", () -> x.base(0) + " " + x.next(0) + " " + x.timeout(0) + " " + x.timer(0));
        x.pass(1);
        Check.is("34, 35: nothing is left", "19 19 11 -1", () -> x.base(0) + " " + x.next(0) + " " + x.timeout(0) + " "
                + x.timer(0));
    }

    /** "if LIKE is 3, and RECOVER is -1": not at 2, and not again at 4. */
    private static void thirdLikeAnswer() {
        TidePost x = firstOfFiveLost();
        x.pass(3);
        Check.is("30: at 26", "1 21 16 21 129 128 16 0 -1 0", () -> Scenes.caller(x, 0) + " " + x.sentAgain(0));
        x.pass(1);
        Check.is("30: at 27", "1 21 16 21 129 128 16 1 -1 0", () -> Scenes.caller(x, 0) + " " + x.sentAgain(0));
        x.pass(1);
        Check.is("30: at 28", "1 21 16 21 129 128 16 2 -1 0", () -> Scenes.caller(x, 0) + " " + x.sentAgain(0));
        x.pass(1);
        Check.is("30: at 29", "1 21 16 21 20 20 16 3 20 1", () -> Scenes.caller(x, 0) + " " + x.sentAgain(0));
        Check.is("36, 35: the timer stays", "24 10 13 37 -1 0 1", () -> Scenes.timing(x, 0));
        x.pass(1);
        Check.is("30: at 30", "1 21 16 21 20 20 16 4 20 1", () -> Scenes.caller(x, 0) + " " + x.sentAgain(0));
        TidePost y = Scenes.grown();
        y.give(0, 0, 3);
        y.lose(0, 0, 1);
        y.pass(13);
        Check.is("30: two like answers are too few", "36 2 0 129", () -> y.clock() + " " + y.like(0) + " " + y.sentAgain(0)
                + " " + y.window(0));
        TidePost z = Scenes.grown();
        z.give(0, 0, 4);
        z.lose(0, 0, 1);
        z.pass(6);
        Check.is("30: three are enough, and 4 * 4 is 16", "29 3 1 16 16", () -> z.clock() + " " + z.like(0) + " "
                + z.sentAgain(0) + " " + z.window(0) + " " + z.threshold(0));
    }

    /** RECOVER is 7, since the timer ran out at 14; at 15, 16 and 17 come like answers. */
    private static void thirdLikeAnswerInRecovery() {
        TidePost x = Scenes.pair(1);
        x.call(0, 1, 4);
        x.give(0, 100, 10);
        x.pass(11);
        x.read(0, 50);
        x.pass(3);
        Check.is("31: the timer ran out", "1 10 4 8 8 16 4 0 7 1", () -> Scenes.caller(x, 0) + " " + x.sentAgain(0));
        x.pass(3);
        Check.is("30: three like answers", "1 10 4 8 8 16 4 3 7 1", () -> Scenes.caller(x, 0) + " " + x.sentAgain(0));
    }

    /** "if r is what ROOM is [..], otherwise ROOM becomes r, and LIKE 0": a read between makes the third one unlike. */
    private static void unlikeAnswer() {
        TidePost x = Scenes.pair(1);
        Scenes.grow(x, 10);
        x.give(0, 0, 5);
        x.lose(0, 0, 1);
        x.pass(4);
        x.read(0, 1);
        x.pass(1);
        Check.is("29, 30: at 28", "1 21 16 21 129 128 10 2 -1", () -> Scenes.caller(x, 0));
        x.pass(1);
        Check.is("29, 30: at 29", "1 21 16 21 129 128 11 0 -1", () -> Scenes.caller(x, 0));
        x.pass(1);
        Check.is("29, 30: at 30, like the one before", "1 21 16 21 129 128 11 1 -1", () -> Scenes.caller(x, 0));
    }

    /** "and above 0": answers that tell again and again that there is no room do not count. */
    private static void noRoomIsNotLike() {
        TidePost x = Scenes.pair(1);
        x.call(0, 1, 1);
        x.give(0, 0, 3);
        x.pass(7);
        Check.is("29, 30: 1 is lost at 6, and answered at 7", "1 3 1 2 16 128 0 0 -1 1", () -> Scenes.caller(x, 0) + " "
                + x.lost());
        Scenes.pass(x, 200);
        Check.is("29, 30: later on", "1 0 0 0", () -> x.base(0) + " " + x.room(0) + " " + x.like(0) + " " + x.tries(0));
        Check.is("20: as often lost as sent", x.sentAgain(0) + 1, x::lost);
    }

    /**
     * "THRESHOLD becomes (NEXT - BASE) * 4, at least 16", with one THING that is not answered. A short way makes TIMEOUT 5;
     * then a long one, of 36 ticks there and back, is open: 2 is sent at 9, 14, 24 and 44, and answered at 45, 50, 60 and 80.
     */
    private static void leastThresholdOfLike() {
        TidePost x = Scenes.nodes(3);
        x.addLink(0, 1, 1, 20);
        x.addLink(0, 2, 9, 20);
        x.addLink(2, 1, 9, 20);
        x.call(0, 1, 16);
        x.give(0, 0, 1);
        x.pass(5);
        x.give(0, 0, 1);
        x.pass(3);
        Check.is("34, 25, 26: at 8", "5 2 2", () -> x.timeout(0) + " " + x.base(0) + " " + x.next(0));
        x.turn(0);
        x.give(0, 0, 1);
        x.pass(36);
        x.give(0, 0, 1);
        x.pass(1);
        Check.is("25 to 31: 3 is sent at 45", "1 4 3 4 16 16 13 0 -1", () -> Scenes.caller(x, 0));
        Check.is("35, 36, 38: 3 is sent at 45", "85 3 3", () -> x.timer(0) + " " + x.measured(0) + " " + x.sentAgain(0));
        x.pass(34);
        Check.is("30: at 79", "1 4 3 4 16 16 13 2 -1", () -> Scenes.caller(x, 0));
        x.pass(1);
        Check.is("30, 31, 27, 28: at 80", "1 4 3 4 16 16 13 3 3", () -> Scenes.caller(x, 0));
        Check.is("36, 38: 3 is sent again", "-1 4", () -> x.measured(0) + " " + x.sentAgain(0));
    }

    /** "At a connection that is CLOSED [..] an ANSWER has no effect." */
    private static void answerAtAClosedOne() {
        TidePost x = Scenes.pair(1);
        x.call(0, 1, 2);
        x.give(0, 5, 2);
        x.close(0);
        x.pass(7);
        Check.is("23: the piece ahead of BYE is answered", "1 2 3", () -> x.stateOf(0) + " " + x.base(0) + " " + x.next(0));
        x.pass(1);
        Check.is("23: BYE is answered", "2 2 3 3 32 128 0 0 -1", () -> Scenes.caller(x, 0));
        x.read(0, 2);
        Check.is("21: an answer with the room 1", 1, x::underWay);
        x.pass(5);
        Check.is("23, 29: has no effect", "2 2 3 3 32 128 0 0 -1 0", () -> Scenes.caller(x, 0) + " " + x.underWay());
    }

    private static void byeSentAgain() {
        TidePost x = Scenes.pair(1);
        x.call(0, 1, 1);
        x.close(0);
        x.pass(3);
        x.lose(0, 1, 1);
        x.pass(13);
        Check.is("39: BYE came twice", "1 0 0", () -> Scenes.callee(x, 0));
        Check.is("23: its answer was lost", "1 0 0 1 8 16 1 0 0 1", () -> Scenes.caller(x, 0) + " " + x.sentAgain(0));
        x.pass(1);
        Check.is("23: closed", "2 0 1 1 16 16 0 0 -1 1", () -> Scenes.caller(x, 0) + " " + x.sentAgain(0));
    }
}
