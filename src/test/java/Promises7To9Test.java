/** Promises 7 to 9: tap, seen, dial. */
public final class Promises7To9Test {
    private static final int UNKNOWN = CordBoard.UNKNOWN, OUTSIDE = CordBoard.OUTSIDE;
    private static final int EMPTY = Desks.EMPTY, WRONG = Desks.WRONG, PLACE = Desks.PLACE;

    public static void main(String[] args) throws ReflectiveOperationException {
        Sentences.run(Promises7To9Test.class);
    }

    // ---- promise 7: tap

    static void promise7_readsAndSeenBecomesIt() {
        CordBoard x = Desks.ofInts();
        for (int i = 0; i < 4; i++) {
            Check.due("tap(0, " + i + ", 4)", x.tap(0, i, 4), 0);
            Check.due("seen", x.seen(), 10 + i);
        }
    }

    static void promise7_readsAsOfEachKindThatItGoesFor() {
        CordBoard x = Desks.ofInts();
        Desks.stands(x, 0, 3, 4, 13);
        Desks.stands(x, 0, 3, 5, 13);
        Desks.stands(x, 0, 3, 6, Float.floatToIntBits(13f));
        Desks.stands(x, 0, 3, 7, Double.doubleToLongBits(13.0));
    }

    static void promise7_leavesThePlaceAsItIs() {
        CordBoard x = Desks.ofInts();
        x.tap(0, 3, 7);
        Check.due("what(0, 3)", x.what(0, 3), 204);
        Desks.ints(x, 0, 10, 11, 12, 13);
    }

    static void promise7_unknownSocket() {
        for (int socket : Desks.NO_SOCKETS) {
            Desks.unchanged("tap(" + socket + ", 0, 4)", x -> x.tap(socket, 0, 4), UNKNOWN);
        }
    }

    static void promise7_outsideKind() {
        for (int kind : Desks.NO_KINDS) {
            Desks.unchanged("tap(4, 0, " + kind + ")", x -> x.tap(4, 0, kind), OUTSIDE);
        }
    }

    static void promise7_unknownAheadOfOutside() {
        for (int socket : Desks.NO_SOCKETS) {
            Desks.unchanged("tap(" + socket + ", 0, 8)", x -> x.tap(socket, 0, 8), UNKNOWN);
        }
    }

    static void promise7_outsideAheadOfCauses() {
        Desks.unchanged("of nothing", x -> x.tap(9, 0, 8), OUTSIDE);
        Desks.unchanged("of a strip", x -> x.tap(0, 0, -1), OUTSIDE);
        Desks.unchanged("of no place", x -> x.tap(4, 3, 8), OUTSIDE);
    }

    static void promise7_causeEmpty() {
        Desks.unchanged("tap(9, 0, 4)", x -> x.tap(9, 0, 4), EMPTY);
    }

    static void promise7_causeWrongNoTrack() {
        for (int socket : new int[] {0, 1, 2, 3, 5}) {
            Desks.unchanged("tap(" + socket + ", 0, 4)", x -> x.tap(socket, 0, 4), WRONG);
            Desks.unchanged("tap(" + socket + ", 9, 4)", x -> x.tap(socket, 9, 4), WRONG);
        }
    }

    static void promise7_causePlace() {
        for (int i : Desks.NO_PLACES_OF_3) {
            Desks.unchanged("tap(4, " + i + ", 4)", x -> x.tap(4, i, 4), PLACE);
            Desks.unchanged("tap(4, " + i + ", 0)", x -> x.tap(4, i, 0), PLACE);
        }
    }

    static void promise7_causeWrongByKinds() {
        for (int kind = 0; kind < 4; kind++) {
            int as = kind;
            Desks.unchanged("tap(4, 0, " + kind + ")", x -> x.tap(4, 0, as), WRONG);
        }
    }

    // ---- promise 8: seen

    static void promise8_0AtFirst() {
        Check.due("seen()", new CordBoard().seen(), 0);
    }

    static void promise8_staysUntilSomethingIsRead() {
        CordBoard x = Desks.ofStripsAndBanks();
        x.dial(4, 0, 4, -5);
        x.tap(4, 0, 4);
        x.dial(4, 0, 4, 6);
        x.enter(2, 0, 0, 4, 7);
        x.what(4, 0);
        x.what(2, 0);
        x.lay(0, 2, 0);
        x.row(2, 1, 3);
        x.width(4);
        x.cable(4, 0, 0, 4, 1, 0, 4, 0);
        x.tick(3);
        x.plug(4, 4, 1);
        Check.due("seen()", x.seen(), -5);
        Check.due("seen() again", x.seen(), -5);
    }

    static void promise8_bitsOfEachKindAsItWasReadAs() {
        CordBoard x = Desks.ofTracks();
        long[] bits = {1, -2, 65534, -32767, Integer.MIN_VALUE, Long.MIN_VALUE, Float.floatToIntBits(-2.5f),
            Double.doubleToLongBits(-2.5)};
        for (int kind = 0; kind < 8; kind++) {
            x.dial(kind, 1, kind, bits[kind]);
            Desks.stands(x, kind, 1, kind, bits[kind]);
        }
    }

    static void promise8_allBitsOfALong() {
        CordBoard x = new CordBoard();
        x.plug(0, 5, 1);
        for (int bit = 0; bit < 64; bit++) {
            x.dial(0, 0, 5, 1L << bit);
            Desks.stands(x, 0, 0, 5, 1L << bit);
        }
    }

    // ---- promise 9: dial

    static void promise9_writesAtThePlace() {
        CordBoard x = Desks.ofInts();
        Check.due("dial(1, 2, 4, -9)", x.dial(1, 2, 4, -9), 0);
        Desks.ints(x, 1, 0, 0, -9, 0);
        Desks.ints(x, 0, 10, 11, 12, 13);
    }

    static void promise9_writesOverWhatStoodThere() {
        CordBoard x = Desks.ofInts();
        Check.due("dial(0, 0, 1, 300)", x.dial(0, 0, 1, 300), 0);
        Desks.ints(x, 0, 44, 11, 12, 13);
    }

    static void promise9_writesEachKindThatGoes() {
        CordBoard x = Desks.ofInts();
        int[] kinds = {1, 2, 3, 4};
        long[] want = {-1, 65535, -1, -1};
        for (int n = 0; n < 4; n++) {
            Check.due("dial as of " + kinds[n], x.dial(1, n, kinds[n], -1), 0);
            Desks.stands(x, 1, n, 4, want[n]);
        }
    }

    static void promise9_seenStaysAsItIs() {
        CordBoard x = Desks.ofInts();
        x.tap(0, 3, 4);
        x.dial(0, 3, 4, 99);
        Check.due("seen()", x.seen(), 13);
    }

    static void promise9_unknownSocket() {
        for (int socket : Desks.NO_SOCKETS) {
            Desks.unchanged("dial(" + socket + ", 0, 4, 5)", x -> x.dial(socket, 0, 4, 5), UNKNOWN);
        }
    }

    static void promise9_outsideKind() {
        for (int kind : Desks.NO_KINDS) {
            Desks.unchanged("dial(4, 0, " + kind + ", 5)", x -> x.dial(4, 0, kind, 5), OUTSIDE);
        }
    }

    static void promise9_outsideNoNumber() {
        Desks.unchanged("a float", x -> x.dial(8, 0, 6, Desks.FLOAT_NAN), OUTSIDE);
        Desks.unchanged("a double", x -> x.dial(8, 0, 7, Desks.DOUBLE_NAN), OUTSIDE);
        Desks.unchanged("what would have a cause too", x -> x.dial(4, 9, 7, Desks.DOUBLE_NAN), OUTSIDE);
    }

    static void promise9_unknownAheadOfOutside() {
        for (int socket : Desks.NO_SOCKETS) {
            Desks.unchanged("and no kind", x -> x.dial(socket, 0, 8, 5), UNKNOWN);
            Desks.unchanged("and no number", x -> x.dial(socket, 0, 7, Desks.DOUBLE_NAN), UNKNOWN);
        }
    }

    static void promise9_outsideAheadOfCauses() {
        Desks.unchanged("no kind to nothing", x -> x.dial(9, 0, 8, 5), OUTSIDE);
        Desks.unchanged("no number to nothing", x -> x.dial(9, 0, 6, Desks.FLOAT_NAN), OUTSIDE);
        Desks.unchanged("no number to a strip", x -> x.dial(0, 0, 7, Desks.DOUBLE_NAN), OUTSIDE);
        Desks.unchanged("no number to no place", x -> x.dial(8, 2, 7, Desks.DOUBLE_NAN), OUTSIDE);
        Desks.unchanged("no number that does not go", x -> x.dial(4, 0, 6, Desks.FLOAT_NAN), OUTSIDE);
    }

    static void promise9_causeEmpty() {
        Desks.unchanged("dial(9, 0, 4, 5)", x -> x.dial(9, 0, 4, 5), EMPTY);
    }

    static void promise9_causeWrongNoTrack() {
        for (int socket : new int[] {0, 1, 2, 3, 5}) {
            Desks.unchanged("dial(" + socket + ", 0, 4, 5)", x -> x.dial(socket, 0, 4, 5), WRONG);
            Desks.unchanged("dial(" + socket + ", 9, 4, 5)", x -> x.dial(socket, 9, 4, 5), WRONG);
        }
    }

    static void promise9_causePlace() {
        for (int i : Desks.NO_PLACES_OF_3) {
            Desks.unchanged("dial(4, " + i + ", 4, 5)", x -> x.dial(4, i, 4, 5), PLACE);
            Desks.unchanged("dial(4, " + i + ", 5, 5)", x -> x.dial(4, i, 5, 5), PLACE);
        }
    }

    static void promise9_causeWrongByKinds() {
        for (int kind : new int[] {0, 5, 6, 7}) {
            Desks.unchanged("dial(4, 0, " + kind + ", 5)", x -> x.dial(4, 0, kind, 5), WRONG);
        }
    }
}
