import java.util.ArrayList;
import java.util.List;
import java.util.function.ToIntFunction;

/** Desks to begin a test with, and what several tests ask of a desk. */
final class Desks {
    static final int EMPTY = -11, WRONG = -12, PLACE = -13;
    static final int IN = 0, FROM = 1, TO = 2, MOVED = 3, CAUSE = 4, SIDE = 5, CAUSES = 6;
    static final int LEAST = Integer.MIN_VALUE, GREATEST = Integer.MAX_VALUE;

    /** What names no socket. */
    static final int[] NO_SOCKETS = {-1, 10, LEAST, GREATEST};

    /** What is no place of a row of 3 places. */
    static final int[] NO_PLACES_OF_3 = {-1, 3, LEAST, GREATEST};

    /** What is no width of a row. */
    static final int[] NO_WIDTHS = {-1, 17, LEAST, GREATEST};

    /** What is no kind. */
    static final int[] NO_KINDS = {-1, 8, LEAST, GREATEST};

    static final long FLOAT_NAN = 0x7FC00000L, DOUBLE_NAN = 0x7FF8000000000000L;

    private Desks() {
    }

    /** Knob 0 is a knob, 1 a fader; sockets 0 .. 7 are tracks of these kinds with 3 places, 8 a knob itself. */
    static CordBoard ofTracks() {
        CordBoard x = new CordBoard();
        x.knob(50, false);
        x.knob(-60, true);
        for (int kind = 0; kind < 8; kind++) {
            x.plug(kind, kind, 3);
        }
        x.mount(8, 0);
        return x;
    }

    /**
     * Knob 0 is a knob, 1 a fader. Sockets of 3 places: 0 a strip of knobs (knob 0, knob 1, nothing), 1 a strip of
     * faders (nothing, knob 1, nothing), 2 and 3 banks of ints and doubles (a row of 2, nothing, nothing), 4 a
     * track of ints. 5 is a knob itself, the rest is empty.
     */
    static CordBoard ofStripsAndBanks() {
        CordBoard x = new CordBoard();
        x.knob(50, false);
        x.knob(-60, true);
        for (int socket = 0; socket < 4; socket++) {
            x.plug(socket, 8 + socket, 3);
        }
        x.plug(4, 4, 3);
        x.mount(5, 0);
        x.lay(0, 0, 0);
        x.lay(0, 1, 1);
        x.lay(1, 1, 1);
        x.row(2, 0, 2);
        x.row(3, 0, 2);
        return x;
    }

    /** Sockets 0 and 1 are tracks of ints with 4 places; 0 holds 10, 11, 12, 13. */
    static CordBoard ofInts() {
        CordBoard x = new CordBoard();
        x.plug(0, 4, 4);
        x.plug(1, 4, 4);
        for (int i = 0; i < 4; i++) {
            x.dial(0, i, 4, 10 + i);
        }
        return x;
    }

    /** Of everything something: numbers in each row, a cable that moved, one with a cause, and something seen. */
    static CordBoard inUse() {
        CordBoard x = ofStripsAndBanks();
        x.enter(2, 0, 1, 4, 21);
        x.enter(3, 0, 1, 4, 31);
        for (int i = 0; i < 3; i++) {
            x.dial(4, i, 4, 40 + i);
        }
        x.share(6, 4);
        x.plug(7, 0, 1);
        x.dial(7, 0, 0, 1);
        x.plug(8, 7, 2);
        x.cable(4, 0, 1, 8, 1, -1, 4, 2);
        x.cable(4, 1, 2, 9, 3, 4, -1, 0);
        x.tick(1);
        x.tap(4, 2, 4);
        return x;
    }

    /** The same desk with as many knobs and cables as there may be. */
    static CordBoard inUseAndFull() {
        CordBoard x = inUse();
        for (int knob = 2; knob < 24; knob++) {
            x.knob(knob, false);
        }
        for (int cable = 2; cable < 12; cable++) {
            x.cable(9, cable, 1, 9, 0, -1, -1, 1);
        }
        return x;
    }

    /** All that can be told of a desk. It is asked by calls, so SEEN, which they change, comes first. */
    static List<Long> picture(CordBoard x) {
        List<Long> all = new ArrayList<>();
        all.add(x.seen());
        for (int what = 0; what < 5; what++) {
            all.add((long) x.about(what));
        }
        for (int knob = 0; knob < x.about(0); knob++) {
            all.add((long) x.gain(knob));
        }
        for (int cable = 0; cable < x.about(1); cable++) {
            for (int what = 0; what < 7; what++) {
                all.add((long) x.told(cable, what));
            }
        }
        for (int socket = 0; socket < 10; socket++) {
            int width = x.width(socket);
            all.add((long) width);
            for (int i = 0; i < width; i++) {
                addPlace(all, x, socket, i);
            }
        }
        return all;
    }

    private static void addPlace(List<Long> all, CordBoard x, int socket, int i) {
        int what = x.what(socket, i);
        all.add((long) what);
        if (what >= 200) {
            x.tap(socket, i, what - 200);
            all.add(x.seen());
        } else if (what >= 100) {
            for (int j = 0; j < what - 100; j++) {
                all.add((long) x.inner(socket, i, j, 4));
                x.inner(socket, i, j, 7);
                all.add(x.seen());
            }
        }
    }

    /** The call's answer is the one due, and the desk is as one on which it was not called. */
    static void unchanged(String name, CordBoard asked, CordBoard left, ToIntFunction<CordBoard> call, int want) {
        Check.due(name, call.applyAsInt(asked), want);
        List<Long> got = picture(asked);
        List<Long> due = picture(left);
        Check.isTrue(name + " changes nothing; it was " + due + ", it is " + got, due.equals(got));
    }

    /** On the desk in use. */
    static void unchanged(String name, ToIntFunction<CordBoard> call, int want) {
        unchanged(name, inUse(), inUse(), call, want);
    }

    /** On the desk in use that is full. */
    static void unchangedWhenFull(String name, ToIntFunction<CordBoard> call, int want) {
        unchanged(name, inUseAndFull(), inUseAndFull(), call, want);
    }

    /** The bits that stand at a place, as of a kind. */
    static void stands(CordBoard x, int socket, int i, int kind, long want) {
        String place = "tap(" + socket + ", " + i + ", " + kind + ")";
        Check.due(place, x.tap(socket, i, kind), 0);
        Check.due("seen() after " + place, x.seen(), want);
    }

    /** The ints of a track from place 0 on. */
    static void ints(CordBoard x, int socket, int... want) {
        for (int i = 0; i < want.length; i++) {
            stands(x, socket, i, 4, want[i]);
        }
    }

    /** In, from, to, moved, cause, side, causes: as many of them as are given. */
    static void cord(CordBoard x, int cable, int... want) {
        for (int what = 0; what < want.length; what++) {
            Check.due("told(" + cable + ", " + what + ")", x.told(cable, what), want[what]);
        }
    }

    /** A new cable that stays at its places, for one tick: it moves (cause 0), or has this cause on this side. */
    static void carries(CordBoard x, String name, int[] from, int[] to, int way, int cause, int side) {
        int number = x.cable(from[0], from[1], 0, to[0], to[1], 0, way, 0);
        Check.due(name + ": how often it moved", x.tick(1), cause == 0 ? 1 : 0);
        Check.due(name + ": cause", x.told(number, CAUSE), cause);
        Check.due(name + ": side", x.told(number, SIDE), side);
        x.out(number);
    }

    static int[] at(int socket, int place) {
        return new int[] {socket, place};
    }

    /** As many ticks as wanted, by as few calls as can be. */
    static void ticks(CordBoard x, int n) {
        for (int left = n; left > 0; left -= 8) {
            x.tick(Math.min(left, 8));
        }
    }
}
