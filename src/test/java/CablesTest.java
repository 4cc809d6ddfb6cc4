/** Promises 15 to 19 and 22: cables, ticks and what is told of them. */
public final class CablesTest {
    private static final int NONE = CordBoard.NONE, UNKNOWN = CordBoard.UNKNOWN, OUTSIDE = CordBoard.OUTSIDE;
    private static final int IN = 0, FROM = 1, TO = 2, MOVED = 3, CAUSE = 4, SIDE = 5, CAUSES = 6;

    public static void main(String[] args) {
        promise15Cable();
        promise16In();
        promise17Out();
        promise18TickMoves();
        promise18TickAsOfAKind();
        promise18TickAsItIs();
        promise18TickOrderOfCables();
        promise18TickRules();
        promise18TickHundredthCause();
        promise18TickPlacesGoRound();
        promise19Told();
        promise22About();
        Check.finish();
    }

    /** Sockets 0 and 1 are tracks of ints with 4 places; 0 holds 10, 11, 12, 13. */
    private static CordBoard deskOfInts() {
        CordBoard x = new CordBoard();
        x.plug(0, 4, 4);
        x.plug(1, 4, 4);
        for (int i = 0; i < 4; i++) {
            x.dial(0, i, 4, 10 + i);
        }
        return x;
    }

    private static void track(CordBoard x, int socket, int... want) {
        for (int i = 0; i < want.length; i++) {
            x.tap(socket, i, 4);
            Check.due("place " + i + " of socket " + socket, x.seen(), want[i]);
        }
    }

    /** In, from, to, moved, cause, side, causes. */
    private static void cord(CordBoard x, int cable, int... want) {
        for (int what = 0; what < want.length; what++) {
            Check.due("told(" + cable + ", " + what + ")", x.told(cable, what), want[what]);
        }
    }

    private static void promise15Cable() {
        CordBoard x = new CordBoard();
        Check.due("no socket from", x.cable(10, 0, 9, 0, 0, 0, 0, 0), UNKNOWN);
        Check.due("no socket to", x.cable(0, 0, 0, -1, 0, 0, 9, 9), UNKNOWN);
        int[] wrongSteps = {-5, 5, Integer.MIN_VALUE, Integer.MAX_VALUE};
        for (int step : wrongSteps) {
            Check.due("step from " + step, x.cable(0, 0, step, 0, 0, 0, 0, 0), OUTSIDE);
            Check.due("step to " + step, x.cable(0, 0, 0, 0, 0, step, 0, 0), OUTSIDE);
        }
        Check.due("way -2", x.cable(0, 0, 0, 0, 0, 0, -2, 0), OUTSIDE);
        Check.due("way 8", x.cable(0, 0, 0, 0, 0, 0, 8, 0), OUTSIDE);
        Check.due("rule -1", x.cable(0, 0, 0, 0, 0, 0, 0, -1), OUTSIDE);
        Check.due("rule 3", x.cable(0, 0, 0, 0, 0, 0, 0, 3), OUTSIDE);
        Check.due("none yet", x.about(1), 0);
        for (int number = 0; number < 12; number++) {
            int step = number % 9 - 4;
            Check.due("cable", x.cable(number % 10, Integer.MIN_VALUE, step, 9, Integer.MAX_VALUE, -step,
                    number % 9 - 1, number % 3), number);
            cord(x, number, 1, Integer.MIN_VALUE, Integer.MAX_VALUE, 0, 0, NONE, 0);
        }
        Check.due("cable 12", x.cable(0, 0, 0, 0, 0, 0, 0, 0), CordBoard.FULL);
        Check.due("outside ahead of full", x.cable(0, 0, 0, 0, 0, 0, 0, 3), OUTSIDE);
        Check.due("unknown ahead of full", x.cable(0, 0, 0, 10, 0, 0, 0, 0), UNKNOWN);
        Check.due("how many", x.about(1), 12);
    }

    private static void promise16In() {
        CordBoard x = deskOfInts();
        x.cable(0, 1, 1, 1, 0, 2, 4, 0);
        x.tick(1);
        cord(x, 0, 1, 2, 2, 1);
        Check.due("in, of one that is", x.in(0), 0);
        cord(x, 0, 1, 1, 0, 1);
        x.tick(3);
        cord(x, 0, 0, 3, 4, 3, 3, 1, 1);
        Check.due("in, of one that is out", x.in(0), 1);
        cord(x, 0, 1, 1, 0, 3, 3, 1, 1);
        Check.due("in of no cable", x.in(1), UNKNOWN);
        Check.due("in of no cable", x.in(-1), UNKNOWN);
        Check.due("in of no cable", x.in(12), UNKNOWN);
    }

    private static void promise17Out() {
        CordBoard x = deskOfInts();
        x.cable(0, 1, 1, 1, 0, 2, 4, 0);
        x.tick(1);
        Check.due("out, of one that is in", x.out(0), 1);
        Check.due("out, of one that is", x.out(0), 0);
        cord(x, 0, 0, 2, 2, 1, 0, NONE, 0);
        Check.due("tick, with none in", x.tick(3), 0);
        cord(x, 0, 0, 2, 2, 1, 0, NONE, 0);
        Check.due("out of no cable", x.out(1), UNKNOWN);
        Check.due("out of no cable", x.out(-1), UNKNOWN);
        Check.due("out of no cable", x.out(12), UNKNOWN);
    }

    private static void promise18TickMoves() {
        CordBoard x = deskOfInts();
        x.cable(0, 0, 1, 1, 3, -1, 4, 0);
        Check.due("no tick", x.tick(0), 0);
        track(x, 1, 0, 0, 0, 0);
        Check.due("ticks", x.tick(3), 3);
        track(x, 1, 0, 12, 11, 10);
        track(x, 0, 10, 11, 12, 13);
        cord(x, 0, 1, 3, 0, 3, 0, NONE, 0);
        Check.due("eight ticks", x.tick(8), 1);
        cord(x, 0, 0, 4, -1, 4, 3, 0, 1);
        Check.due("nine", x.tick(9), OUTSIDE);
        Check.due("less than none", x.tick(-1), OUTSIDE);
        Check.due("a great many", x.tick(Integer.MAX_VALUE), OUTSIDE);
        Check.due("ticks in all", x.about(3), 11);
    }

    private static void promise18TickAsOfAKind() {
        for (int from = 0; from < 8; from++) {
            for (int to = 0; to < 8; to++) {
                for (int way = 0; way < 8; way++) {
                    CordBoard x = new CordBoard();
                    x.plug(0, from, 1);
                    x.plug(1, to, 1);
                    x.dial(0, 0, from, 1);
                    x.cable(0, 0, 0, 1, 0, 0, way, 1);
                    boolean read = Numbers.goesFor(from, way);
                    boolean written = Numbers.goesFor(way, to);
                    Check.due("from " + from + " as " + way + " to " + to, x.tick(1), read && written ? 1 : 0);
                    Check.due("cause", x.told(0, CAUSE), read && written ? 0 : 2);
                    Check.due("side", x.told(0, SIDE), !read ? 0 : !written ? 1 : NONE);
                }
            }
        }
        CordBoard x = new CordBoard();
        x.plug(0, 5, 1);
        x.plug(1, 7, 1);
        x.dial(0, 0, 5, 16777217);
        x.cable(0, 0, 0, 1, 0, 0, 6, 0);
        x.tick(1);
        x.tap(1, 0, 7);
        Check.due("by way of a float", x.seen(), Double.doubleToLongBits(16777216.0));
    }

    private static void promise18TickAsItIs() {
        CordBoard x = new CordBoard();
        x.knob(1, false);
        x.knob(2, true);
        for (int socket = 0; socket < 4; socket++) {
            x.plug(socket, 8 + socket, 3);
        }
        x.plug(4, 4, 3);
        x.mount(5, 0);
        x.lay(0, 0, 0);
        x.lay(0, 1, 1);
        x.row(2, 0, 2);
        x.row(3, 0, 5);
        one(x, "a fader to faders", 0, 1, 1, 0, 0, NONE);
        Check.due("what", x.what(1, 0), 1);
        Check.due("what is carried stays", x.what(0, 1), 1);
        one(x, "a knob to faders", 0, 0, 1, 1, 2, 1);
        one(x, "nothing to faders", 0, 2, 1, 0, 0, NONE);
        Check.due("what", x.what(1, 0), NONE);
        one(x, "a row to a bank", 2, 0, 2, 2, 0, NONE);
        x.enter(2, 0, 1, 4, 66);
        x.inner(2, 2, 1, 4);
        Check.due("the row as it is, no copy", x.seen(), 66);
        one(x, "doubles to ints", 3, 0, 2, 1, 2, 1);
        one(x, "ints to doubles", 2, 0, 3, 1, 2, 1);
        one(x, "a row to a strip", 2, 0, 0, 2, 2, 1);
        one(x, "a number to a strip", 4, 0, 0, 2, 2, 1);
        one(x, "a number to a bank", 4, 0, 2, 1, 2, 1);
    }

    /** One cable as it is, for one tick. */
    private static void one(CordBoard x, String name, int from, int i, int to, int k, int cause, int side) {
        int number = x.cable(from, i, 0, to, k, 0, -1, 0);
        Check.due(name, x.tick(1), cause == 0 ? 1 : 0);
        Check.due(name + ", cause", x.told(number, CAUSE), cause);
        Check.due(name + ", side", x.told(number, SIDE), side);
        x.out(number);
    }

    private static void promise18TickOrderOfCables() {
        CordBoard x = deskOfInts();
        x.cable(0, 0, 0, 0, 1, 0, 4, 0);
        x.cable(0, 1, 0, 0, 2, 0, 4, 0);
        Check.due("tick", x.tick(1), 2);
        track(x, 0, 10, 10, 10, 13);
        CordBoard y = deskOfInts();
        y.cable(0, 1, 0, 0, 2, 0, 4, 0);
        y.cable(0, 0, 0, 0, 1, 0, 4, 0);
        Check.due("tick", y.tick(1), 2);
        track(y, 0, 10, 10, 11, 13);
        CordBoard z = deskOfInts();
        z.plug(2, 8, 1);
        z.cable(9, 0, 0, 9, 0, 0, -1, 0);
        z.cable(2, 0, 0, 0, 99, 0, -1, 0);
        z.cable(0, 9, 0, 9, 0, 0, 4, 0);
        z.cable(0, 0, 0, 1, 9, 0, 5, 0);
        Check.due("tick", z.tick(1), 0);
        cord(z, 0, 0, 0, 0, 0, 1, 0, 1);
        cord(z, 1, 0, 0, 99, 0, 2, 1, 1);
        cord(z, 2, 0, 9, 0, 0, 3, 0, 1);
        cord(z, 3, 0, 0, 9, 0, 3, 1, 1);
    }

    private static void promise18TickRules() {
        CordBoard x = deskOfInts();
        x.cable(0, 2, 1, 1, 0, 1, 4, 0);
        x.cable(0, 2, 1, 1, 0, 1, 4, 1);
        x.cable(0, 2, 1, 1, 0, 1, 4, 2);
        Check.due("ticks", x.tick(3), 6);
        cord(x, 0, 0, 4, 2, 2, 3, 0, 1);
        cord(x, 1, 1, 5, 3, 2, 3, 0, 1);
        cord(x, 2, 1, 2, 0, 2, 3, 0, 1);
        Check.due("ticks", x.tick(2), 2);
        cord(x, 0, 0, 4, 2, 2, 3, 0, 1);
        cord(x, 1, 1, 7, 5, 2, 3, 0, 3);
        cord(x, 2, 1, 4, 2, 4, 3, 0, 1);
        track(x, 1, 12, 13, 0, 0);
    }

    private static void promise18TickHundredthCause() {
        for (int rule = 1; rule <= 2; rule++) {
            CordBoard x = deskOfInts();
            x.cable(5, 3, 1, 1, 0, -1, -1, rule);
            for (int n = 0; n < 12; n++) {
                x.tick(8);
            }
            x.tick(3);
            int step = rule == 1 ? 99 : 0;
            cord(x, 0, 1, 3 + step, -step, 0, 1, 0, 99);
            x.tick(1);
            cord(x, 0, 0, 3 + step, -step, 0, 1, 0, 100);
            x.tick(8);
            Check.due("in again", x.in(0), 1);
            cord(x, 0, 1, 3, 0, 0, 1, 0, 100);
            x.tick(2);
            cord(x, 0, 0, 3, 0, 0, 1, 0, 101);
            x.in(0);
            x.plug(5, 4, 4);
            Check.due("it still moves", x.tick(1), 1);
            cord(x, 0, 1, 4, -1, 1, 1, 0, 101);
        }
    }

    private static void promise18TickPlacesGoRound() {
        CordBoard x = deskOfInts();
        x.cable(0, Integer.MAX_VALUE - 1, 4, 1, Integer.MIN_VALUE + 1, -4, 4, 1);
        x.tick(1);
        cord(x, 0, 1, Integer.MIN_VALUE + 2, Integer.MAX_VALUE - 2, 0, 3, 0, 1);
        x.cable(0, -3, 1, 1, -3, 1, 4, 1);
        Check.due("places from below", x.tick(8), 4);
        track(x, 1, 10, 11, 12, 13);
        cord(x, 1, 1, 5, 5, 4, 3, 0, 4);
    }

    private static void promise19Told() {
        CordBoard x = deskOfInts();
        Check.due("told of no cable, outside too", x.told(0, 7), UNKNOWN);
        x.cable(0, 3, 1, 1, 2, 1, -1, 1);
        cord(x, 0, 1, 3, 2, 0, 0, NONE, 0);
        x.tick(3);
        cord(x, 0, 1, 6, 5, 1, 3, 0, 2);
        x.in(0);
        x.tick(1);
        Check.due("moved", x.told(0, MOVED), 2);
        Check.due("the latest cause stays", x.told(0, CAUSE), 3);
        Check.due("and how many", x.told(0, CAUSES), 2);
        x.in(0);
        x.plug(1, 13, 0);
        x.tick(1);
        Check.due("a later cause", x.told(0, CAUSE), 1);
        Check.due("and its side", x.told(0, SIDE), 1);
        x.out(0);
        Check.due("in", x.told(0, IN), 0);
        Check.due("from", x.told(0, FROM), 4);
        Check.due("to", x.told(0, TO), 3);
        Check.due("outside", x.told(0, 7), OUTSIDE);
        Check.due("outside", x.told(0, -1), OUTSIDE);
        Check.due("unknown", x.told(1, 0), UNKNOWN);
        Check.due("unknown", x.told(-1, 0), UNKNOWN);
        Check.due("unknown", x.told(12, 0), UNKNOWN);
    }

    private static void promise22About() {
        CordBoard x = deskOfInts();
        x.knob(1, true);
        x.knob(1, false);
        x.knob(1, false);
        x.cable(0, 0, 0, 1, 0, 0, 4, 0);
        x.cable(0, 0, 0, 9, 0, 0, 4, 0);
        int[] before = {3, 2, 2, 0, 0, OUTSIDE};
        x.tick(0);
        for (int what = 0; what < before.length; what++) {
            Check.due("about " + what, x.about(what), before[what]);
        }
        x.tick(4);
        x.tick(9);
        x.tick(3);
        int[] after = {3, 2, 1, 7, 7, OUTSIDE};
        for (int what = 0; what < after.length; what++) {
            Check.due("about " + what, x.about(what), after[what]);
        }
        x.out(0);
        x.tick(1);
        Check.due("none in", x.about(2), 0);
        Check.due("a tick without cables counts", x.about(3), 8);
        Check.due("moves", x.about(4), 7);
        Check.due("outside", x.about(-1), OUTSIDE);
        CordBoard y = new CordBoard();
        y.tick(5);
        Check.due("ticks without any cable", y.about(3), 5);
    }
}
