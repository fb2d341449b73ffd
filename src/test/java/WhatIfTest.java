/** Promises 44 to 47: what would be, without any change, and the checksum. */
public final class WhatIfTest {
    public static void main(String[] args) {
        ticksUntil();
        lostIn();
        distanceWithout();
        digest();
        aheadOfAnUnlikePast();
        Check.end();
    }

    private static TidePost busy() {
        TidePost x = new TidePost();
        for (int i = 0; i < 4; i++) {
            x.addNode();
        }
        x.addLink(0, 1, 1, 2);
        x.addLink(1, 2, 2, 3);
        x.addLink(2, 3, 1, 2);
        x.addLink(0, 3, 9, 4);
        x.call(0, 2, 3);
        x.call(3, 1, 16);
        x.give(0, 1, 30);
        x.give(1, 1, 50);
        x.lose(1, 0, 2);
        x.pass(20);
        return x;
    }

    private static void ticksUntil() {
        TidePost x = new TidePost();
        x.addNode();
        x.addNode();
        x.addLink(0, 1, 1, 20);
        x.call(0, 1, 4);
        x.give(0, 100, 10);
        // 0, 1, 2 and 3 are answered at the ticks 5, 7, 8 and 9; then there is no room
        long before = x.digest();
        Check.is("44: base is 0", 0, () -> x.ticksUntil(0, 0, 1));
        Check.is("44: base is more than -5", 0, () -> x.ticksUntil(0, -5, 60));
        Check.is("44: ticksUntil(0, 1, 60)", 5, () -> x.ticksUntil(0, 1, 60));
        Check.is("44: just within", 5, () -> x.ticksUntil(0, 1, 5));
        Check.is("44: just not", -1, () -> x.ticksUntil(0, 1, 4));
        Check.is("44: ticksUntil(0, 2, 60)", 7, () -> x.ticksUntil(0, 2, 60));
        Check.is("44: ticksUntil(0, 4, 60)", 9, () -> x.ticksUntil(0, 4, 60));
        Check.is("44: never", -1, () -> x.ticksUntil(0, 5, 60));
        Check.is("44: never at all", -1, () -> x.ticksUntil(0, Integer.MAX_VALUE, 1));
        Check.index("44: connection 1", () -> x.ticksUntil(1, 0, 0));
        Check.index("44: connection -1", () -> x.ticksUntil(-1, 0, 1));
        Check.argument("44: most 0, though base is that", () -> x.ticksUntil(0, 0, 0));
        Check.argument("44: most 61", () -> x.ticksUntil(0, 1, 61));
        Check.is("44: nothing is changed", before, x::digest);
        x.pass(6);
        Check.is("44: from now on", 3, () -> x.ticksUntil(0, 4, 60));
        Check.is("44: base is more", 0, () -> x.ticksUntil(0, 0, 60));
    }

    private static void lostIn() {
        TidePost x = busy();
        for (int i = 0; i < 25; i++) {
            int ticks = 1 + i % 9;
            int before = x.lost();
            long digest = x.digest();
            int foreseen = x.lostIn(ticks);
            Check.is("45: nothing is changed", digest, x::digest);
            x.pass(ticks);
            Check.is("45: lostIn(" + ticks + ")", x.lost() - before, () -> foreseen);
        }
        TidePost lossy = new TidePost();
        lossy.addNode();
        lossy.addNode();
        lossy.addLink(0, 1, 1, 1);
        lossy.call(0, 1, 1);
        lossy.lose(0, 0, 9);
        Check.is("45: HELLO, at 1", 1, () -> lossy.lostIn(1));
        Check.is("45: and not again till 12", 1, () -> lossy.lostIn(11));
        Check.is("45: HELLO, at 1 and 12", 2, () -> lossy.lostIn(12));
        Check.is("45: and at 36", 3, () -> lossy.lostIn(50));
        Check.is("45: how many to lose is not changed", 9, () -> lossy.lose(0, 0, 0));
        Check.is("20: lost()", 0, lossy::lost);
        for (int wrong : new int[] {0, 51, -1, Integer.MIN_VALUE}) {
            Check.argument("45: lostIn(" + wrong + ")", () -> x.lostIn(wrong));
        }
    }

    private static void distanceWithout() {
        TidePost x = busy();
        long before = x.digest();
        Check.is("46: not on the route", 4, () -> x.distanceWithout(3, 0, 3));
        Check.is("46: by the long link", 9, () -> x.distanceWithout(1, 0, 3));
        Check.is("46: round about", 11, () -> x.distanceWithout(1, 1, 2));
        Check.is("46: to the same", 0, () -> x.distanceWithout(1, 2, 2));
        Check.is("46: nothing is changed", before, x::digest);
        Check.is("46: distance(1, 2)", 2, () -> x.distance(1, 2));
        x.turn(3);
        Check.is("46: without another way", -1, () -> x.distanceWithout(1, 0, 3));
        Check.is("46: of one that is down", 4, () -> x.distanceWithout(3, 0, 3));
        Check.is("14: it stays down", false, () -> x.isUp(3));
        for (int wrong : new int[] {-1, 4, Integer.MAX_VALUE}) {
            Check.index("46: link " + wrong, () -> x.distanceWithout(wrong, 0, 0));
            Check.index("46: from " + wrong, () -> x.distanceWithout(0, wrong, 0));
            Check.index("46: to " + wrong, () -> x.distanceWithout(0, 0, wrong));
        }
    }

    private static long digestOf(TidePost x) {
        long d = 58043;
        for (long n : new long[] {x.clock(), x.nodes(), x.links(), x.lost(), x.underWay(), x.connections()}) {
            d = d * 31 + n;
        }
        for (int i = 0; i < x.links(); i++) {
            for (long n : new long[] {x.isUp(i) ? 1 : 0, x.queued(i, 0), x.flying(i, 0), x.flown(i, 0), x.queued(i, 1),
                x.flying(i, 1), x.flown(i, 1)}) {
                d = d * 31 + n;
            }
        }
        for (int i = 0; i < x.connections(); i++) {
            for (long n : new long[] {x.stateOf(i), x.given(i), x.base(i), x.next(i), x.window(i), x.threshold(i), x.room(i),
                x.like(i), x.recover(i), x.round(i), x.swing(i), x.timeout(i), x.timer(i), x.measured(i), x.tries(i),
                x.sentAgain(i), x.wanted(i), x.readable(i), x.hasRead(i)}) {
                d = d * 31 + n;
            }
        }
        for (int i = 0; i < x.nodes(); i++) {
            d = d * 31 + x.distance(0, i);
        }
        return d;
    }

    private static void digest() {
        TidePost x = new TidePost();
        Check.is("47: of a new object", 51513376156283L, x::digest);
        x.addNode();
        x.addNode();
        // 58043, 0, 2, 0, 0, 0, 0, then the distances 0 and -1
        Check.is("47: of two nodes", ((((58043L * 31 * 31 + 2) * 31 * 31 * 31 * 31) * 31) * 31 - 1), x::digest);
        TidePost y = busy();
        y.turn(2);
        Check.is("47: of a busy network", digestOf(y), y::digest);
        y.pass(50);
        Check.is("47: later on", digestOf(y), y::digest);
    }

    /** What was looked ahead once leaves nothing that could be seen as one looks ahead again. */
    private static void aheadOfAnUnlikePast() {
        TidePost x = busy();
        TidePost y = busy();
        x.lostIn(50);
        x.ticksUntil(1, 50, 60);
        x.turn(2);
        y.turn(2);
        x.pass(30);
        y.pass(30);
        x.read(0, 50);
        y.read(0, 50);
        Check.is("45: as without the look", y.lostIn(33), () -> x.lostIn(33));
        Check.is("44: as without the look", y.ticksUntil(0, 9, 60), () -> x.ticksUntil(0, 9, 60));
        Check.is("47: as without the look", y.digest(), x::digest);
    }
}
