import java.math.BigInteger;

/** The boundaries that the promises 7 to 10 and 40 to 47 name: what is given, read and asked, and what would be. */
public final class BoundaryCallTest {
    public static void main(String[] args) {
        give();
        giveWrapsAround();
        close();
        readNone();
        readMany();
        readWrapsAround();
        readTellsOfTheRoom();
        pass();
        holds();
        meanWindow();
        meanWindowNotCut();
        meanWindowOfSix();
        noRouteOverTwelveLinks();
        ticksUntilNow();
        ticksUntilTheLast();
        ticksUntilBehindTheLast();
        ticksUntilMore();
        whatComesAsItWouldBe();
        lostInFiftyTicks();
        lostInWays();
        digestWrapsAround();
        lastCall();
        Check.end();
    }

    /** Promise 7: "many is not 1 to 50", "would be given more than 200". */
    private static void give() {
        TidePost x = Scenes.pair(1);
        x.call(0, 1, 1);
        Check.argument("7: 0", () -> x.give(0, 0, 0));
        Check.argument("7: 51", () -> x.give(0, 0, 51));
        Check.is("7: 1", 1, () -> x.give(0, 0, 1));
        Check.is("7: 50", 51, () -> x.give(0, 0, 50));
        x.give(0, 0, 50);
        x.give(0, 0, 50);
        Check.state("7: 151 + 50", () -> x.give(0, 0, 50));
        Check.is("24: given(0)", 151, () -> x.given(0));
        Check.is("7: 151 + 49", 200, () -> x.give(0, 0, 49));
        Check.state("7: 200 + 1", () -> x.give(0, 0, 1));
        Check.is("24: given(0)", 200, () -> x.given(0));
    }

    /** Promise 7: "wrapped around to 32 bits". */
    private static void giveWrapsAround() {
        TidePost x = Scenes.pair(1);
        x.call(0, 1, 16);
        x.give(0, Integer.MAX_VALUE, 2);
        x.give(0, -1, 2);
        x.give(0, Integer.MIN_VALUE, 1);
        x.pass(20);
        int[] due = {Integer.MAX_VALUE, Integer.MIN_VALUE, -1, 0, Integer.MIN_VALUE};
        for (int value : due) {
            Check.is("7: the next value", value, () -> x.read(0, 1));
        }
    }

    /** Promise 8: "all from BASE on, BYE and those that were not sent yet as well". */
    private static void close() {
        TidePost x = Scenes.pair(1);
        x.call(0, 1, 16);
        Check.is("8: BYE alone", 1, () -> x.close(0));
        Check.state("8: was told", () -> x.close(0));
        x.call(0, 1, 16);
        for (int i = 0; i < 4; i++) {
            x.give(1, 0, 50);
        }
        Check.is("8: 200 and BYE", 201, () -> x.close(1));
        TidePost y = Scenes.grown();
        y.give(0, 0, 1);
        Check.is("8: what is answered does not count", 2, () -> y.close(0));
        TidePost z = Scenes.grown();
        z.give(0, 0, 1);
        z.pass(1);
        Check.is("8: what is sent does", 2, () -> z.close(0));
    }

    /** Promise 9: "if there is none to be read". */
    private static void readNone() {
        TidePost x = Scenes.pair(1);
        x.call(0, 1, 16);
        Check.state("9: none was given", () -> x.read(0, 1));
        x.give(0, 8, 2);
        x.pass(3);
        Check.state("9: none came", () -> x.read(0, 1));
        x.pass(1);
        Check.is("9: one came", 8, () -> x.read(0, 50));
        Check.state("9: it was read", () -> x.read(0, 1));
        TidePost y = Scenes.pair(1);
        y.call(0, 1, 16);
        y.close(0);
        y.pass(5);
        Check.is("39, 41: BYE came", "1 0 0", () -> Scenes.callee(y, 0));
        Check.state("9: BYE is none", () -> y.read(0, 50));
        TidePost z = Scenes.grown();
        z.give(0, 0, 2);
        z.lose(0, 0, 1);
        z.pass(4);
        Check.is("40, 41: 17 is held, but is not below WANTED", "true 0", () -> z.holds(0, 17) + " " + z.readable(0));
        Check.state("9: what is held can not be read", () -> z.read(0, 1));
    }

    /** Promise 9: "most is not 1 to 50"; fewer than there are, as many, and more. */
    private static void readMany() {
        TidePost x = Scenes.pair(1);
        Scenes.grow(x, 0);
        Check.argument("9: 0", () -> x.read(0, 0));
        Check.argument("9: 51", () -> x.read(0, 51));
        Check.is("41: all places are taken", 16, () -> x.readable(0));
        Check.is("9: one", 0, () -> x.read(0, 1));
        Check.is("9: two", 1 + 2, () -> x.read(0, 2));
        Check.is("41, 42: thirteen are left", "16 13 3", () -> Scenes.callee(x, 0));
        Check.is("9: all but one", 3 + 4 + 5 + 6 + 7 + 8 + 9 + 10 + 11 + 12 + 13 + 14, () -> x.read(0, 12));
        Check.is("9: as many as there are", 15, () -> x.read(0, 1));
        Check.state("9: none is left", () -> x.read(0, 50));
        TidePost y = Scenes.pair(1);
        Scenes.grow(y, 0);
        Check.is("9: fifty, of sixteen", 120, () -> y.read(0, 50));
        Check.is("41, 42: none is left", "16 0 16", () -> Scenes.callee(y, 0));
    }

    /** Promise 9: "the sum of their values, wrapped around to 32 bits". */
    private static void readWrapsAround() {
        TidePost x = Scenes.pair(1);
        x.call(0, 1, 16);
        x.give(0, Integer.MAX_VALUE, 1);
        x.give(0, 1, 1);
        x.give(0, Integer.MIN_VALUE, 1);
        x.give(0, -1, 1);
        x.pass(20);
        Check.is("9: above", Integer.MIN_VALUE, () -> x.read(0, 2));
        Check.is("9: below", Integer.MAX_VALUE, () -> x.read(0, 2));
    }

    /** Promise 9: "If the room was 0 ahead of that, and is not behind it, an ANSWER is sent". */
    private static void readTellsOfTheRoom() {
        TidePost x = Scenes.pair(1);
        Scenes.grow(x, 0);
        Check.is("21: underWay()", 0, x::underWay);
        x.read(0, 1);
        Check.is("9: the room was 0", 1, x::underWay);
        x.read(0, 1);
        Check.is("9: the room was 1", 1, x::underWay);
        x.read(0, 50);
        Check.is("9: the room was 2", 1, x::underWay);
        Check.is("17: it is queued", 1, () -> x.queued(0, 1));
        x.pass(2);
        Check.is("29: it tells of the room as it was sent", 1, () -> x.room(0));
        x.turn(0);
        TidePost y = Scenes.pair(1);
        Scenes.grow(y, 0);
        y.turn(0);
        y.read(0, 1);
        Check.is("9: without a route it is lost", "0 1", () -> y.underWay() + " " + y.lost());
    }

    /** Promise 10: "ticks is not 1 to 50". */
    private static void pass() {
        TidePost x = new TidePost();
        Check.argument("10: 0", () -> x.pass(0));
        Check.argument("10: 51", () -> x.pass(51));
        Check.is("10: 1", 1, () -> x.pass(1));
        Check.is("10: 50", 51, () -> x.pass(50));
        Check.is("11: clock()", 51, x::clock);
    }

    /** Promise 40: any number may be asked for. */
    private static void holds() {
        TidePost x = Scenes.grown();
        x.give(0, 0, 3);
        x.lose(0, 0, 1);
        x.pass(4);
        int[] held = {17, 18};
        for (int number : held) {
            Check.is("40: holds(0, " + number + ")", true, () -> x.holds(0, number));
        }
        int[] others = {Integer.MIN_VALUE, -1, 0, 15, 16, 19, 199, 200, 201, 202, Integer.MAX_VALUE};
        for (int number : others) {
            Check.is("40: holds(0, " + number + ")", false, () -> x.holds(0, number));
        }
    }

    /** Promise 43: "of all connections that are OPEN [..]; 0 without any". */
    private static void meanWindow() {
        TidePost x = Scenes.pair(1);
        Check.is("43: no connection", 0.0, x::meanWindow);
        x.lose(0, 0, 9);
        x.call(0, 1, 1);
        Check.is("43: calling", 0.0, x::meanWindow);
        Scenes.pass(x, 264);
        Check.is("43: broken", "3 0.0", () -> x.stateOf(0) + " " + x.meanWindow());
        x.lose(0, 0, 0);
        x.call(0, 1, 1);
        x.close(1);
        x.pass(3);
        Check.is("43: open", "1 8.0", () -> x.stateOf(1) + " " + x.meanWindow());
        x.pass(2);
        Check.is("43: closed", "2 0.0", () -> x.stateOf(1) + " " + x.meanWindow());
    }

    /** Promise 43: "not cut". */
    private static void meanWindowNotCut() {
        TidePost x = Scenes.grown();
        Check.is("43: 129", 129.0, x::meanWindow);
        x.call(0, 1, 1);
        Check.is("43: beside one that calls", 129.0, x::meanWindow);
        x.pass(3);
        Check.is("43: (129 + 8) / 2", 68.5, x::meanWindow);
        x.call(0, 1, 1);
        x.pass(3);
        Check.is("43: (129 + 8 + 8) / 3", 145 / 3.0, x::meanWindow);
    }

    private static void meanWindowOfSix() {
        TidePost x = Scenes.pair(1);
        Scenes.grow(x, 16);
        for (int i = 1; i < 6; i++) {
            x.call(1, 0, 1);
        }
        Check.is("43: five are calling", 129.0, x::meanWindow);
        x.pass(8);
        Check.is("43: six are open", (129 + 5 * 8) / 6.0, x::meanWindow);
        x.close(5);
        x.pass(3);
        Check.is("43: the last one is closed", (129 + 4 * 8) / 5.0, x::meanWindow);
    }

    /** Promises 15, 16 and 46: "-1 without one", with as many links as there can be, all of them down. */
    private static void noRouteOverTwelveLinks() {
        TidePost x = Scenes.nodes(8);
        for (int i = 0; i < 12; i++) {
            x.addLink(i % 8, (i % 8 + (i < 8 ? 1 : 4)) % 8, 1, 1);
            x.turn(i);
        }
        Check.is("13: links()", 12, x::links);
        Check.is("15: distance(7, 0)", -1, () -> x.distance(7, 0));
        Check.is("16: nextLink(7, 0)", -1, () -> x.nextLink(7, 0));
        Check.is("46: distanceWithout(11, 7, 0)", -1, () -> x.distanceWithout(11, 7, 0));
        Check.is("15, 16, 46: to the same", "0 -1 0", () -> x.distance(7, 7) + " " + x.nextLink(7, 7) + " "
                + x.distanceWithout(11, 7, 7));
        x.turn(11);
        Check.is("15, 16, 46: over the last link", "1 11 -1", () -> x.distance(7, 3) + " " + x.nextLink(7, 3) + " "
                + x.distanceWithout(11, 7, 3));
    }

    /** Promise 44: "BASE is that number or more (0, if it is)". */
    private static void ticksUntilNow() {
        TidePost x = Scenes.grown();
        int[] reached = {Integer.MIN_VALUE, -1, 0, 15, 16};
        for (int number : reached) {
            Check.is("44: ticksUntil(0, " + number + ", 1)", 0, () -> x.ticksUntil(0, number, 1));
        }
        int[] others = {17, 200, Integer.MAX_VALUE};
        for (int number : others) {
            Check.is("44: ticksUntil(0, " + number + ", 60)", -1, () -> x.ticksUntil(0, number, 60));
        }
        x.give(0, 0, 1);
        Check.is("44: ticksUntil(0, 17, 60)", 3, () -> x.ticksUntil(0, 17, 60));
        Check.is("44: not one more", -1, () -> x.ticksUntil(0, 18, 60));
        x.close(0);
        Check.is("44: BYE, which takes off one tick later, counts", 4, () -> x.ticksUntil(0, 18, 60));
        Check.is("44: nothing is behind it", -1, () -> x.ticksUntil(0, 19, 60));
        x.pass(2);
        Check.is("44: in one tick", 1, () -> x.ticksUntil(0, 17, 1));
        Check.argument("44: 0", () -> x.ticksUntil(0, 17, 0));
        Check.argument("44: 0, though BASE is that", () -> x.ticksUntil(0, 16, 0));
        Check.argument("44: 61, though BASE is that", () -> x.ticksUntil(0, 16, 61));
    }

    /** HELLOs of 0 and 12 are lost; that of 36 is answered at 48, and what is sent then at 60. */
    private static void ticksUntilTheLast() {
        TidePost x = Scenes.pair(6);
        x.lose(0, 0, 2);
        x.call(0, 1, 1);
        x.give(0, 0, 1);
        Check.is("44: within 60", 60, () -> x.ticksUntil(0, 1, 60));
        Check.is("44: not within 59", -1, () -> x.ticksUntil(0, 1, 59));
        Check.argument("44: 61", () -> x.ticksUntil(0, 1, 61));
        x.pass(1);
        Check.is("44: from now on", 59, () -> x.ticksUntil(0, 1, 60));
        Check.is("44: within 59", 59, () -> x.ticksUntil(0, 1, 59));
        Scenes.pass(x, 58);
        Check.is("25: at 59", "59 0", () -> x.clock() + " " + x.base(0));
        x.pass(1);
        Check.is("25: at 60", 1, () -> x.base(0));
    }

    /** The like of a second connection, whose packets take off one tick later. */
    private static void ticksUntilBehindTheLast() {
        TidePost x = Scenes.pair(6);
        x.lose(0, 0, 4);
        x.call(0, 1, 1);
        x.call(0, 1, 1);
        x.give(1, 0, 1);
        Check.is("44: 61 is not within 60", -1, () -> x.ticksUntil(1, 1, 60));
        x.pass(1);
        Check.is("44: 60 is", 60, () -> x.ticksUntil(1, 1, 60));
    }

    /** "or more": BASE goes from 16 to 21 at once, at 31, as 16 was lost. */
    private static void ticksUntilMore() {
        TidePost x = Scenes.grown();
        x.give(0, 0, 5);
        x.lose(0, 0, 1);
        for (int number = 17; number <= 21; number++) {
            int asked = number;
            Check.is("44: ticksUntil(0, " + number + ", 60)", 8, () -> x.ticksUntil(0, asked, 60));
        }
        Check.is("44: ticksUntil(0, 22, 60)", -1, () -> x.ticksUntil(0, 22, 60));
        x.pass(7);
        Check.is("25: at 30", 16, () -> x.base(0));
        x.pass(1);
        Check.is("25: at 31", 21, () -> x.base(0));
        Check.is("44: BASE is more than that", 0, () -> x.ticksUntil(0, 18, 60));
    }

    /** At each of many ticks: what the promises 44 and 45 foresee is what comes to pass, and nothing is changed. */
    private static void whatComesAsItWouldBe() {
        for (int ticks = 1; ticks <= 90; ticks++) {
            TidePost x = lossy(ticks);
            int base = x.base(0);
            int foreseen = x.ticksUntil(0, base + 1, 60);
            int lost = x.lostIn(50);
            TidePost y = lossy(ticks);
            int came = -1;
            for (int i = 1; i <= 60 && came < 0; i++) {
                y.pass(1);
                came = y.base(0) > base ? i : -1;
            }
            int due = came;
            Check.is("44: one more answered, from " + ticks + " on", due, () -> foreseen);
            TidePost z = lossy(ticks);
            z.pass(50);
            Check.is("45: lost, from " + ticks + " on", z.lost() - x.lost(), () -> lost);
            x.pass(50);
            Check.is("44, 45: nothing is changed", z.digest(), x::digest);
        }
    }

    /** Three connections over one link with little room; some packets are lost, and two are told to close. */
    private static TidePost lossy(int ticks) {
        TidePost x = Scenes.nodes(3);
        x.addLink(0, 1, 1, 20);
        x.addLink(1, 2, 2, 3);
        x.call(0, 2, 6);
        x.give(0, 0, 19);
        x.close(0);
        x.call(2, 0, 16);
        x.give(1, 0, 30);
        x.call(1, 2, 2);
        x.give(2, 0, 6);
        x.close(2);
        for (int i = 1; i <= ticks; i++) {
            x.pass(1);
            if (i % 9 == 0) {
                x.lose(1, i / 9 % 2, 1);
            }
            if (i % 8 == 0 && x.readable(0) > 0) {
                x.read(0, 50);
            }
        }
        return x;
    }

    /** Promise 45: HELLOs take off, and are lost, at 1, 12, 36 and 84. */
    private static void lostInFiftyTicks() {
        TidePost x = Scenes.pair(1);
        x.lose(0, 0, 9);
        x.call(0, 1, 1);
        Check.argument("45: 0", () -> x.lostIn(0));
        Check.argument("45: 51", () -> x.lostIn(51));
        Check.is("45: in one tick", 1, () -> x.lostIn(1));
        Check.is("45: in 50 ticks", 3, () -> x.lostIn(50));
        Scenes.pass(x, 33);
        Check.is("45: from 34 to 83", 1, () -> x.lostIn(50));
        x.pass(1);
        Check.is("45: from 35 to 84", 2, () -> x.lostIn(50));
        Check.is("45: from 35 to 83", 1, () -> x.lostIn(49));
        Check.is("45: at 35", 0, () -> x.lostIn(1));
        Check.is("45: at 35 and 36", 1, () -> x.lostIn(2));
        x.pass(2);
        Check.is("45: from 37 to 83", 0, () -> x.lostIn(47));
        Check.is("20: lost()", 3, x::lost);
        Check.is("5: six are still to be lost", 6, () -> x.lose(0, 0, 0));
    }

    /** All that is LOST counts: at a full queue, without a route, at the callee. */
    private static void lostInWays() {
        TidePost x = Scenes.pair(1);
        Scenes.grow(x, 16);
        Scenes.grow(x, 16);
        x.give(0, 0, 16);
        x.give(1, 0, 16);
        Check.is("45: 32 THINGs for 20 places", 12, () -> x.lostIn(1));
        TidePost y = Scenes.line(3, 3);
        y.call(0, 2, 1);
        y.pass(1);
        y.turn(1);
        Check.is("45: it flies", 0, () -> y.lostIn(2));
        Check.is("45: at the node 1 there is no route", 1, () -> y.lostIn(3));
        TidePost z = Scenes.pair(1);
        z.call(0, 1, 1);
        z.give(0, 0, 2);
        z.pass(5);
        Check.is("45: at the callee there is no place", 1, () -> z.lostIn(1));
        TidePost last = Scenes.line(8, 1);
        last.call(0, 7, 1);
        last.lose(6, 1, 1);
        Check.is("45: HELLO takes off from the node 6 at 7", 0, () -> last.lostIn(7));
        Check.is("45: the answer on the last link", 1, () -> last.lostIn(8));
    }

    /** Promise 47: "wraps around as a 64-bit integer". */
    private static void digestWrapsAround() {
        TidePost x = Scenes.grown();
        x.turn(0);
        int[] numbers = {23, 2, 1, 0, 0, 1, 0, 0, 0, 17, 0, 0, 18, 1, 16, 16, 16, 129, 128, 16, 0, -1, 24, 10, 13, -1, -1, 0,
            0, 16, 0, 16, 0, -1};
        BigInteger d = BigInteger.valueOf(58043);
        for (int number : numbers) {
            d = d.multiply(BigInteger.valueOf(31)).add(BigInteger.valueOf(number));
        }
        boolean tooGreat = d.bitLength() > 64;
        Check.is("47: that is far above 64 bits", true, () -> tooGreat);
        Check.is("47: its lowest 64 bits", d.longValue(), x::digest);
    }

    /** An object is used for at most 512 calls: the last ones are answered as the first ones are. */
    private static void lastCall() {
        TidePost x = Scenes.pair(1);
        x.call(0, 1, 16);
        for (int i = 4; i < 511; i++) {
            x.pass(50);
        }
        Check.is("10: the 512th call", 507 * 50 + 50, () -> x.pass(50));
    }
}
