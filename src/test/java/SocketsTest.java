/** Promises 1 to 6, 10 to 14, 20 and 21: what the sockets hold, and knobs. */
public final class SocketsTest {
    private static final int NONE = CordBoard.NONE, UNKNOWN = CordBoard.UNKNOWN, OUTSIDE = CordBoard.OUTSIDE;

    public static void main(String[] args) {
        promise1NewObject();
        promise2Plug();
        promise3Knob();
        promise4Mount();
        promise5Share();
        promise6Width();
        promise10Lay();
        promise11Row();
        promise12What();
        promise13Inner();
        promise14Enter();
        promise20Level();
        promise21Gain();
        Check.finish();
    }

    /** Knob 0 is a knob, 1 a fader; sockets 0 .. 7 tracks of these kinds, 8 a knob itself, 9 empty. */
    private static CordBoard deskOfTracks() {
        CordBoard x = new CordBoard();
        x.knob(50, false);
        x.knob(-60, true);
        for (int kind = 0; kind < 8; kind++) {
            x.plug(kind, kind, 3);
        }
        x.mount(8, 0);
        return x;
    }

    /** Knob 0 is a knob, 1 a fader; sockets 0 .. 3 are strips and banks, 4 a track of ints, 5 a knob itself. */
    private static CordBoard deskOfStripsAndBanks() {
        CordBoard x = new CordBoard();
        x.knob(50, false);
        x.knob(-60, true);
        for (int socket = 0; socket < 4; socket++) {
            x.plug(socket, 8 + socket, 3);
        }
        x.plug(4, 4, 3);
        x.mount(5, 1);
        return x;
    }

    private static void promise1NewObject() {
        CordBoard x = new CordBoard();
        for (int socket = 0; socket < 10; socket++) {
            Check.due("width of new socket " + socket, x.width(socket), -11);
            Check.due("what of new socket " + socket, x.what(socket, 0), -11);
        }
        for (int what = 0; what < 5; what++) {
            Check.due("about of a new object", x.about(what), 0);
        }
        Check.due("first knob", x.mount(0, 0), UNKNOWN);
        Check.due("first cable", x.told(0, 0), UNKNOWN);
        CordBoard y = new CordBoard();
        x.plug(0, 4, 5);
        x.knob(3, false);
        Check.due("another object is apart", y.width(0), -11);
        Check.due("another object's knobs are apart", y.about(0), 0);
    }

    private static void promise2Plug() {
        CordBoard x = new CordBoard();
        for (int sort = 0; sort < 12; sort++) {
            Check.due("plug of sort " + sort, x.plug(3, sort, 16), 1);
            Check.due("width", x.width(3), 16);
            Check.due("what at first", x.what(3, 15), sort < 8 ? 200 + sort : NONE);
            Check.due("plug without places", x.plug(3, sort, 0), 1);
            Check.due("width", x.width(3), 0);
            Check.due("what at no place", x.what(3, 0), -13);
        }
        for (int kind = 0; kind < 8; kind++) {
            x.plug(0, kind, 1);
            Check.due("tap", x.tap(0, 0, kind), 0);
            Check.due("0 at first", x.seen(), 0);
        }
        x.plug(0, 4, 2);
        x.dial(0, 0, 4, 8);
        Check.due("plug refused", x.plug(0, 4, 17), OUTSIDE);
        Check.due("plug refused", x.plug(0, 12, 1), OUTSIDE);
        x.tap(0, 0, 4);
        Check.due("a refusal changes nothing", x.seen(), 8);
        x.plug(0, 4, 2);
        x.tap(0, 0, 4);
        Check.due("a new row each time", x.seen(), 0);
        Check.due("plug of nothing", x.plug(0, 13, -5), 1);
        Check.due("width of nothing", x.width(0), -11);
        int[] wrongSorts = {-1, 12, 14, Integer.MIN_VALUE, Integer.MAX_VALUE};
        for (int sort : wrongSorts) {
            Check.due("plug of sort " + sort, x.plug(0, sort, 1), OUTSIDE);
        }
        int[] wrongWidths = {-1, 17, Integer.MIN_VALUE, Integer.MAX_VALUE};
        for (int n : wrongWidths) {
            Check.due("plug of " + n, x.plug(0, 10, n), OUTSIDE);
        }
        Check.due("plug in no socket", x.plug(-1, 12, 99), UNKNOWN);
        Check.due("plug in no socket", x.plug(10, 13, 0), UNKNOWN);
    }

    private static void promise3Knob() {
        CordBoard x = new CordBoard();
        for (int number = 0; number < 24; number++) {
            Check.due("knob", x.knob(number * 3 - 7, number % 2 == 1), number);
        }
        Check.due("knob 24", x.knob(5, false), CordBoard.FULL);
        Check.due("fader 24", x.knob(5, true), CordBoard.FULL);
        Check.due("how many", x.about(0), 24);
        Check.due("gain of the last", x.gain(23), 62);
        Check.due("gain of one refused", x.gain(24), 0);
        x.plug(0, 9, 1);
        Check.due("a knob is no fader", x.lay(0, 0, 22), -12);
        Check.due("a fader is one", x.lay(0, 0, 23), 0);
    }

    private static void promise4Mount() {
        CordBoard x = new CordBoard();
        x.knob(5, false);
        x.knob(6, true);
        Check.due("mount", x.mount(9, 1), 1);
        Check.due("width", x.width(9), -12);
        Check.due("mount", x.mount(9, 0), 1);
        x.plug(9, 4, 2);
        Check.due("mount of no knob", x.mount(9, 2), UNKNOWN);
        Check.due("mount of nothing", x.mount(9, NONE), UNKNOWN);
        Check.due("mount of knob 24", x.mount(9, 24), UNKNOWN);
        Check.due("mount in no socket", x.mount(10, 0), UNKNOWN);
        Check.due("mount in no socket", x.mount(-1, 0), UNKNOWN);
        Check.due("width, unchanged", x.width(9), 2);
    }

    private static void promise5Share() {
        CordBoard x = new CordBoard();
        x.knob(5, false);
        x.plug(0, 4, 2);
        Check.due("share", x.share(1, 0), 1);
        x.dial(1, 1, 4, 77);
        x.tap(0, 1, 4);
        Check.due("the same thing", x.seen(), 77);
        x.plug(0, 5, 1);
        x.tap(1, 1, 4);
        Check.due("the other one holds it still", x.seen(), 77);
        Check.due("share of a socket with itself", x.share(1, 1), 1);
        Check.due("width", x.width(1), 2);
        x.mount(2, 0);
        Check.due("share of a knob itself", x.share(3, 2), 1);
        Check.due("width", x.width(3), -12);
        Check.due("share of nothing", x.share(1, 9), 1);
        Check.due("width", x.width(1), -11);
        x.plug(4, 8, 2);
        x.share(5, 4);
        x.lay(4, 0, 0);
        Check.due("what in a shared strip", x.what(5, 0), 0);
        Check.due("share from no socket", x.share(0, 10), UNKNOWN);
        Check.due("share from no socket", x.share(0, -1), UNKNOWN);
        Check.due("share in no socket", x.share(10, 0), UNKNOWN);
        Check.due("share in no socket", x.share(-1, 0), UNKNOWN);
        Check.due("width, unchanged", x.width(0), 1);
    }

    private static void promise6Width() {
        CordBoard x = new CordBoard();
        x.knob(5, true);
        for (int n = 0; n <= 16; n++) {
            x.plug(0, n % 12, n);
            Check.due("width", x.width(0), n);
        }
        x.mount(0, 0);
        Check.due("width of a knob itself", x.width(0), -12);
        Check.due("width of nothing", x.width(1), -11);
        Check.due("width of no socket", x.width(10), UNKNOWN);
        Check.due("width of no socket", x.width(-1), UNKNOWN);
    }

    private static void promise10Lay() {
        CordBoard x = deskOfStripsAndBanks();
        Check.due("a knob in a strip of knobs", x.lay(0, 0, 0), 0);
        Check.due("a fader in a strip of knobs", x.lay(0, 1, 1), 0);
        Check.due("a knob in a strip of faders", x.lay(1, 0, 0), -12);
        Check.due("a fader in a strip of faders", x.lay(1, 1, 1), 0);
        Check.due("nothing over a knob", x.lay(0, 0, NONE), 0);
        Check.due("what", x.what(0, 0), NONE);
        Check.due("what", x.what(0, 1), 1);
        Check.due("what", x.what(1, 0), NONE);
        Check.due("what", x.what(1, 1), 1);
        for (int bank = 2; bank < 4; bank++) {
            Check.due("a knob in a bank", x.lay(bank, 0, 0), -12);
            Check.due("a fader in a bank", x.lay(bank, 0, 1), -12);
            x.row(bank, 0, 2);
            Check.due("nothing in a bank", x.lay(bank, 0, NONE), 0);
            Check.due("what", x.what(bank, 0), NONE);
        }
        for (int socket = 0; socket < 4; socket++) {
            Check.due("no place ahead of what does not fit", x.lay(socket, 3, 0), -13);
            Check.due("nothing at no place", x.lay(socket, -1, NONE), -13);
        }
        Check.due("nothing in a track, ahead of the place", x.lay(4, 9, NONE), -12);
        Check.due("nothing in a track", x.lay(4, 0, NONE), -12);
        Check.due("a knob in a track, at no place", x.lay(4, 3, 0), -13);
        Check.due("a knob in a track", x.lay(4, 2, 0), -12);
        Check.due("in a knob itself", x.lay(5, 0, NONE), -12);
        Check.due("in nothing", x.lay(6, 0, 0), -11);
        Check.due("no such knob", x.lay(6, 0, 2), UNKNOWN);
        Check.due("no such knob", x.lay(0, 0, -2), UNKNOWN);
        Check.due("no such socket", x.lay(10, 0, 0), UNKNOWN);
        Check.due("no such socket", x.lay(-1, 0, NONE), UNKNOWN);
    }

    private static void promise11Row() {
        CordBoard x = deskOfStripsAndBanks();
        Check.due("a row in a bank of ints", x.row(2, 0, 16), 0);
        Check.due("what", x.what(2, 0), 116);
        Check.due("a row without places", x.row(2, 1, 0), 0);
        Check.due("what", x.what(2, 1), 100);
        Check.due("a row in a bank of doubles", x.row(3, 2, 4), 0);
        Check.due("what", x.what(3, 2), 104);
        Check.due("ints", x.inner(2, 0, 0, 4), 0);
        Check.due("doubles", x.inner(3, 2, 0, 4), -12);
        x.enter(2, 0, 1, 4, 9);
        x.row(2, 0, 2);
        x.inner(2, 0, 1, 4);
        Check.due("a new row each time", x.seen(), 0);
        for (int socket = 0; socket < 2; socket++) {
            Check.due("a row in a strip", x.row(socket, 0, 2), -12);
            Check.due("a row in a strip, at no place", x.row(socket, 3, 2), -13);
        }
        Check.due("at no place of a bank", x.row(2, 3, 2), -13);
        Check.due("a row in a track", x.row(4, 0, 2), -12);
        Check.due("a row in a track, at no place", x.row(4, -1, 2), -13);
        Check.due("in a knob itself", x.row(5, 0, 2), -12);
        Check.due("in nothing", x.row(6, 0, 2), -11);
        Check.due("17", x.row(6, 0, 17), OUTSIDE);
        Check.due("-1", x.row(2, 0, -1), OUTSIDE);
        Check.due("no such socket", x.row(10, 0, 17), UNKNOWN);
        Check.due("what, unchanged", x.what(2, 0), 102);
    }

    private static void promise12What() {
        CordBoard x = deskOfTracks();
        for (int kind = 0; kind < 8; kind++) {
            Check.due("what of a track", x.what(kind, 2), 200 + kind);
            Check.due("what at no place", x.what(kind, 3), -13);
            Check.due("what at place -1", x.what(kind, -1), -13);
        }
        Check.due("what of a knob itself", x.what(8, 99), -12);
        Check.due("what of nothing", x.what(9, 99), -11);
        Check.due("what of no socket", x.what(10, 0), UNKNOWN);
        CordBoard y = deskOfStripsAndBanks();
        y.lay(0, 1, 0);
        y.lay(0, 2, 1);
        Check.due("nothing", y.what(0, 0), NONE);
        Check.due("a knob", y.what(0, 1), 0);
        Check.due("a fader", y.what(0, 2), 1);
        Check.due("nothing in a bank", y.what(3, 1), NONE);
        Check.due("no place of a strip", y.what(1, 3), -13);
    }

    private static void promise13Inner() {
        CordBoard x = deskOfStripsAndBanks();
        x.row(2, 0, 2);
        x.row(3, 0, 2);
        x.enter(2, 0, 1, 4, -3);
        x.enter(3, 0, 1, 4, -3);
        for (int kind = 0; kind < 8; kind++) {
            Check.due("of ints, as " + kind, x.inner(2, 0, 1, kind), kind >= 4 ? 0 : -12);
            Check.due("of doubles, as " + kind, x.inner(3, 0, 1, kind), kind == 7 ? 0 : -12);
        }
        x.inner(2, 0, 1, 5);
        Check.due("seen", x.seen(), -3);
        x.inner(2, 0, 1, 7);
        Check.due("seen", x.seen(), Double.doubleToLongBits(-3.0));
        x.inner(2, 0, 0, 4);
        Check.due("0 at first", x.seen(), 0);
        x.lay(0, 0, 0);
        Check.due("no place of the row, ahead of the kind", x.inner(2, 0, 2, 0), -13);
        Check.due("place -1 of the row", x.inner(2, 0, -1, 4), -13);
        Check.due("no place of the bank", x.inner(2, 3, 0, 4), -13);
        Check.due("nothing stands there", x.inner(2, 1, 0, 4), -11);
        Check.due("nothing stands in the strip", x.inner(0, 1, 0, 4), -11);
        Check.due("a knob stands there", x.inner(0, 0, 9, 4), -12);
        Check.due("a number stands there", x.inner(4, 0, 9, 4), -12);
        Check.due("no place of the track", x.inner(4, 3, 0, 4), -13);
        Check.due("a knob itself", x.inner(5, 0, 0, 4), -12);
        Check.due("nothing", x.inner(6, 0, 0, 4), -11);
        Check.due("no kind", x.inner(6, 0, 0, 8), OUTSIDE);
        Check.due("no kind", x.inner(2, 0, 0, -1), OUTSIDE);
        Check.due("no socket", x.inner(10, 0, 0, 8), UNKNOWN);
        Check.due("seen, unchanged", x.seen(), 0);
    }

    private static void promise14Enter() {
        CordBoard x = deskOfStripsAndBanks();
        x.row(2, 0, 2);
        x.row(3, 0, 2);
        for (int kind = 0; kind < 8; kind++) {
            Check.due("to ints, of " + kind, x.enter(2, 0, 1, kind, 1), kind >= 1 && kind <= 4 ? 0 : -12);
            Check.due("to doubles, of " + kind, x.enter(3, 0, 1, kind, 1), kind >= 1 ? 0 : -12);
        }
        x.enter(2, 0, 1, 1, 0x1FF);
        x.inner(2, 0, 1, 4);
        Check.due("bits are cut", x.seen(), -1);
        x.enter(3, 0, 1, 6, Float.floatToIntBits(0.5f));
        x.inner(3, 0, 1, 7);
        Check.due("widened", x.seen(), Double.doubleToLongBits(0.5));
        x.lay(0, 0, 0);
        Check.due("no place of the row, ahead of the kind", x.enter(2, 0, 2, 5, 0), -13);
        Check.due("place -1 of the row", x.enter(2, 0, -1, 4, 0), -13);
        Check.due("no place of the bank", x.enter(2, 3, 0, 4, 0), -13);
        Check.due("nothing stands there", x.enter(2, 1, 0, 4, 0), -11);
        Check.due("a knob stands there", x.enter(0, 0, 9, 4, 0), -12);
        Check.due("a number stands there", x.enter(4, 0, 9, 4, 0), -12);
        Check.due("no place of the track", x.enter(4, 3, 0, 4, 0), -13);
        Check.due("a knob itself", x.enter(5, 0, 0, 4, 0), -12);
        Check.due("nothing", x.enter(6, 0, 0, 4, 0), -11);
        Check.due("no kind", x.enter(6, 0, 0, 8, 0), OUTSIDE);
        Check.due("no number", x.enter(6, 0, 0, 6, 0x7FC00000L), OUTSIDE);
        Check.due("no number", x.enter(3, 0, 0, 7, -1), OUTSIDE);
        Check.due("no socket", x.enter(-1, 0, 0, 8, 0), UNKNOWN);
        Check.due("tap of the track", x.tap(4, 0, 4), 0);
        Check.due("a number is not written through", x.seen(), 0);
    }

    private static void promise20Level() {
        CordBoard x = deskOfTracks();
        for (int kind = 0; kind < 8; kind++) {
            Check.due("level of a track of " + kind, x.level(kind), kind >= 1 && kind <= 5 ? 0 : -12);
        }
        x.dial(1, 0, 1, -100);
        x.dial(1, 1, 1, -100);
        x.dial(1, 2, 1, 7);
        x.level(1);
        Check.due("together", x.seen(), -193);
        x.dial(2, 2, 2, 65535);
        x.level(2);
        Check.due("of chars", x.seen(), 65535);
        x.dial(5, 0, 5, Long.MAX_VALUE);
        x.dial(5, 2, 5, 2);
        x.level(5);
        Check.due("wrapping", x.seen(), Long.MIN_VALUE + 1);
        Check.due("level of doubles", x.level(7), -12);
        Check.due("level of a knob itself", x.level(8), -12);
        Check.due("level of nothing", x.level(9), -11);
        Check.due("level of no socket", x.level(10), UNKNOWN);
        Check.due("level of no socket", x.level(-1), UNKNOWN);
        Check.due("seen, unchanged", x.seen(), Long.MIN_VALUE + 1);
        for (int sort = 0; sort < 12; sort++) {
            x.level(5);
            x.plug(0, sort, 0);
            Check.due("level of a row without places, sort " + sort, x.level(0), 0);
            Check.due("seen", x.seen(), 0);
        }
        for (int sort = 8; sort < 12; sort++) {
            x.plug(0, sort, 1);
            Check.due("level of sort " + sort, x.level(0), -12);
        }
    }

    private static void promise21Gain() {
        CordBoard x = new CordBoard();
        Check.due("gain of none", x.gain(0), 0);
        x.knob(Integer.MIN_VALUE, true);
        x.knob(17, false);
        Check.due("gain", x.gain(0), Integer.MIN_VALUE);
        Check.due("gain", x.gain(1), 17);
        int[] none = {-1, 2, 23, 24, Integer.MIN_VALUE, Integer.MAX_VALUE};
        for (int knob : none) {
            Check.due("gain of " + knob, x.gain(knob), 0);
        }
    }
}
