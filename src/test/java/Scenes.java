/** What several tests share: small networks, a caller whose window has grown, and a connection as a text. */
final class Scenes {
    private Scenes() {
    }

    static TidePost nodes(int many) {
        TidePost x = new TidePost();
        for (int i = 0; i < many; i++) {
            x.addNode();
        }
        return x;
    }

    /** Two nodes, and a link with the greatest room between them. */
    static TidePost pair(int delay) {
        TidePost x = nodes(2);
        x.addLink(0, 1, delay, 20);
        return x;
    }

    /** Nodes in a row: the link n lies between the nodes n and n + 1. */
    static TidePost line(int many, int delay) {
        TidePost x = nodes(many);
        for (int i = 0; i + 1 < many; i++) {
            x.addLink(i, i + 1, delay, 20);
        }
        return x;
    }

    /**
     * Makes a connection from the node 0 to the node 1 of a pair with the delay 1, and lets it send 16 pieces, with the
     * values 0 to 15. Each is answered alone, so W grows by 8 up to 128, and by 1 then. After 21 ticks the callee is full;
     * so many are read there, and 2 ticks later that is known to the caller, which is at rest with a TIMEOUT of 13.
     */
    static int grow(TidePost x, int read) {
        int c = x.call(0, 1, 16);
        x.give(c, 0, 16);
        x.pass(21);
        if (read > 0) {
            x.read(c, read);
        }
        x.pass(2);
        return c;
    }

    /** A pair at the clock 23, whose connection 0 has grown, with all that came read. */
    static TidePost grown() {
        TidePost x = pair(1);
        grow(x, 16);
        return x;
    }

    /** The same with a delay of 9, at the clock 119; TIMEOUT is 30. */
    static TidePost grownFar() {
        TidePost x = pair(9);
        x.call(0, 1, 16);
        x.give(0, 0, 16);
        pass(x, 109);
        x.read(0, 16);
        x.pass(10);
        return x;
    }

    /** Passes any number of ticks, 0 as well. */
    static void pass(TidePost x, int ticks) {
        int left = ticks;
        while (left > 0) {
            x.pass(Math.min(50, left));
            left -= 50;
        }
    }

    /** What is asked of the caller, in the order of the document's face. */
    static String caller(TidePost x, int c) {
        return x.stateOf(c) + " " + x.given(c) + " " + x.base(c) + " " + x.next(c) + " " + x.window(c) + " " + x.threshold(c)
                + " " + x.room(c) + " " + x.like(c) + " " + x.recover(c);
    }

    /** ROUND, SWING, TIMEOUT, the timer, MEASURED, TRIES, and how often something was sent again. */
    static String timing(TidePost x, int c) {
        return x.round(c) + " " + x.swing(c) + " " + x.timeout(c) + " " + x.timer(c) + " " + x.measured(c) + " " + x.tries(c)
                + " " + x.sentAgain(c);
    }

    static String callee(TidePost x, int c) {
        return x.wanted(c) + " " + x.readable(c) + " " + x.hasRead(c);
    }
}
