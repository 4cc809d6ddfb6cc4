/** Terms, 2 SOCKETS: what they hold, knobs, and the causes of READ, WRITE, TAKE and LAY in their order. */
public final class Terms2SocketsTest {
    private static final int NONE = CordBoard.NONE, UNKNOWN = CordBoard.UNKNOWN;
    private static final int EMPTY = Desks.EMPTY, WRONG = Desks.WRONG, PLACE = Desks.PLACE;

    public static void main(String[] args) throws ReflectiveOperationException {
        Sentences.run(Terms2SocketsTest.class);
    }

    // ---- what sockets hold

    static void terms2_sockets_0To9HoldNothingAtFirst() {
        CordBoard x = new CordBoard();
        for (int socket = 0; socket < 10; socket++) {
            Check.due("width(" + socket + ")", x.width(socket), EMPTY);
        }
    }

    static void terms2_sockets_thereIsNoneBelow0NorAbove9() {
        CordBoard x = new CordBoard();
        for (int socket : Desks.NO_SOCKETS) {
            Check.due("width(" + socket + ")", x.width(socket), UNKNOWN);
        }
    }

    static void terms2_sockets_holdRowsOf0To16Places() {
        CordBoard x = new CordBoard();
        for (int n = 0; n <= 16; n++) {
            Check.due("plug of " + n, x.plug(n % 10, n % 12, n), 1);
            Check.due("width", x.width(n % 10), n);
        }
    }

    static void terms2_sockets_eachHoldsItsOwn() {
        CordBoard x = new CordBoard();
        for (int socket = 0; socket < 10; socket++) {
            x.plug(socket, 4, socket + 1);
            x.dial(socket, socket, 4, 70 + socket);
        }
        for (int socket = 0; socket < 10; socket++) {
            Check.due("width", x.width(socket), socket + 1);
            Desks.stands(x, socket, socket, 4, 70 + socket);
        }
    }

    static void terms2_tracks_hold0AtFirst() {
        CordBoard x = new CordBoard();
        for (int kind = 0; kind < 8; kind++) {
            x.plug(kind, kind, 16);
            for (int i = 0; i < 16; i++) {
                Check.due("what", x.what(kind, i), 200 + kind);
                Desks.stands(x, kind, i, kind, 0);
            }
        }
    }

    static void terms2_stripsAndBanks_holdNothingAtFirst() {
        CordBoard x = new CordBoard();
        for (int sort = 8; sort < 12; sort++) {
            x.plug(0, sort, 16);
            for (int i = 0; i < 16; i++) {
                Check.due("what in sort " + sort, x.what(0, i), NONE);
            }
        }
    }

    static void terms2_knobs_24AtMost() {
        CordBoard x = new CordBoard();
        for (int n = 0; n < 24; n++) {
            Check.isTrue("knob " + n + " is made", x.knob(0, n % 3 == 0) >= 0);
        }
        Check.due("one more", x.knob(0, false), CordBoard.FULL);
    }

    static void terms2_knobs_areNumberedAsTheyComeFadersAmongThem() {
        CordBoard x = new CordBoard();
        for (int n = 0; n < 24; n++) {
            Check.due("knob", x.knob(0, n % 3 == 0), n);
        }
    }

    static void terms2_knobs_haveAGainEach() {
        CordBoard x = new CordBoard();
        for (int n = 0; n < 24; n++) {
            x.knob(n * n - 100, n % 2 == 0);
        }
        for (int n = 0; n < 24; n++) {
            Check.due("gain(" + n + ")", x.gain(n), n * n - 100);
        }
    }

    // ---- READ

    static void terms2_read_emptyAheadOfAll() {
        CordBoard x = new CordBoard();
        for (int i : new int[] {-1, 0, 99}) {
            for (int kind = 0; kind < 8; kind++) {
                Check.due("tap(3, " + i + ", " + kind + ")", x.tap(3, i, kind), EMPTY);
            }
        }
    }

    static void terms2_read_ofNoTrackIsWrong() {
        CordBoard x = Desks.ofStripsAndBanks();
        for (int socket : new int[] {0, 1, 2, 3, 5}) {
            for (int kind = 0; kind < 8; kind++) {
                Check.due("tap(" + socket + ", 1, " + kind + ")", x.tap(socket, 1, kind), WRONG);
            }
        }
    }

    static void terms2_read_ofNoTrackIsWrongAheadOfPlace() {
        CordBoard x = Desks.ofStripsAndBanks();
        for (int socket : new int[] {0, 1, 2, 3, 5}) {
            for (int i : Desks.NO_PLACES_OF_3) {
                Check.due("tap(" + socket + ", " + i + ", 4)", x.tap(socket, i, 4), WRONG);
            }
        }
    }

    static void terms2_read_noSuchPlaceOfATrack() {
        CordBoard x = Desks.ofTracks();
        for (int kind = 0; kind < 8; kind++) {
            for (int i : Desks.NO_PLACES_OF_3) {
                Check.due("tap(" + kind + ", " + i + ", " + kind + ")", x.tap(kind, i, kind), PLACE);
            }
        }
    }

    static void terms2_read_firstAndLastPlaceOfATrack() {
        CordBoard x = new CordBoard();
        for (int n = 1; n <= 16; n++) {
            x.plug(0, 4, n);
            Check.due("first of " + n, x.tap(0, 0, 4), 0);
            Check.due("last of " + n, x.tap(0, n - 1, 4), 0);
            Check.due("one behind " + n, x.tap(0, n, 4), PLACE);
        }
    }

    static void terms2_read_aTrackWithoutPlacesHasNone() {
        CordBoard x = new CordBoard();
        for (int kind = 0; kind < 8; kind++) {
            x.plug(0, kind, 0);
            Check.due("tap(0, 0, " + kind + ")", x.tap(0, 0, kind), PLACE);
        }
    }

    static void terms2_read_placeAheadOfKinds() {
        CordBoard x = Desks.ofTracks();
        for (int i : Desks.NO_PLACES_OF_3) {
            Check.due("an int as a short at " + i, x.tap(4, i, 3), PLACE);
            Check.due("a truth as a double at " + i, x.tap(0, i, 7), PLACE);
        }
    }

    static void terms2_read_theTracksKindGoesForTheOneReadAs() {
        CordBoard x = Desks.ofTracks();
        Check.due("a byte as an int", x.tap(1, 0, 4), 0);
        Check.due("an int as a byte", x.tap(4, 0, 1), WRONG);
        Check.due("a float as a double", x.tap(6, 0, 7), 0);
        Check.due("a double as a float", x.tap(7, 0, 6), WRONG);
    }

    // ---- WRITE

    static void terms2_write_emptyAheadOfAll() {
        CordBoard x = new CordBoard();
        for (int i : new int[] {-1, 0, 99}) {
            for (int kind = 0; kind < 8; kind++) {
                Check.due("dial(3, " + i + ", " + kind + ", 1)", x.dial(3, i, kind, 1), EMPTY);
            }
        }
    }

    static void terms2_write_toNoTrackIsWrong() {
        CordBoard x = Desks.ofStripsAndBanks();
        for (int socket : new int[] {0, 1, 2, 3, 5}) {
            for (int kind = 0; kind < 8; kind++) {
                Check.due("dial(" + socket + ", 1, " + kind + ", 1)", x.dial(socket, 1, kind, 1), WRONG);
            }
        }
    }

    static void terms2_write_toNoTrackIsWrongAheadOfPlace() {
        CordBoard x = Desks.ofStripsAndBanks();
        for (int socket : new int[] {0, 1, 2, 3, 5}) {
            for (int i : Desks.NO_PLACES_OF_3) {
                Check.due("dial(" + socket + ", " + i + ", 4, 1)", x.dial(socket, i, 4, 1), WRONG);
            }
        }
    }

    static void terms2_write_noSuchPlaceOfATrack() {
        CordBoard x = Desks.ofTracks();
        for (int kind = 0; kind < 8; kind++) {
            for (int i : Desks.NO_PLACES_OF_3) {
                Check.due("dial(" + kind + ", " + i + ", " + kind + ", 1)", x.dial(kind, i, kind, 1), PLACE);
            }
        }
    }

    static void terms2_write_firstAndLastPlaceOfATrack() {
        CordBoard x = new CordBoard();
        for (int n = 1; n <= 16; n++) {
            x.plug(0, 4, n);
            Check.due("first of " + n, x.dial(0, 0, 4, 1), 0);
            Check.due("last of " + n, x.dial(0, n - 1, 4, n), 0);
            Check.due("one behind " + n, x.dial(0, n, 4, 99), PLACE);
            Desks.stands(x, 0, n - 1, 4, n);
        }
    }

    static void terms2_write_aTrackWithoutPlacesHasNone() {
        CordBoard x = new CordBoard();
        for (int kind = 0; kind < 8; kind++) {
            x.plug(0, kind, 0);
            Check.due("dial(0, 0, " + kind + ", 1)", x.dial(0, 0, kind, 1), PLACE);
        }
    }

    static void terms2_write_placeAheadOfKinds() {
        CordBoard x = Desks.ofTracks();
        for (int i : Desks.NO_PLACES_OF_3) {
            Check.due("a long to ints at " + i, x.dial(4, i, 5, 1), PLACE);
            Check.due("a double to truths at " + i, x.dial(0, i, 7, 1), PLACE);
        }
    }

    static void terms2_write_theOneGivenGoesForTheTracksKind() {
        CordBoard x = Desks.ofTracks();
        Check.due("a byte to ints", x.dial(4, 0, 1, 1), 0);
        Check.due("an int to bytes", x.dial(1, 0, 4, 1), WRONG);
        Check.due("a float to doubles", x.dial(7, 0, 6, 1), 0);
        Check.due("a double to floats", x.dial(6, 0, 7, 1), WRONG);
    }

    static void terms2_write_onePlaceAlone() {
        CordBoard x = Desks.ofInts();
        x.dial(0, 2, 4, 99);
        Desks.ints(x, 0, 10, 11, 99, 13);
        Desks.ints(x, 1, 0, 0, 0, 0);
    }

    // ---- TAKE

    static void terms2_take_emptyAheadOfPlace() {
        CordBoard x = new CordBoard();
        for (int i : new int[] {-1, 0, 99}) {
            Check.due("what(3, " + i + ")", x.what(3, i), EMPTY);
        }
    }

    static void terms2_take_ofAKnobItselfIsWrongAheadOfPlace() {
        CordBoard x = Desks.ofStripsAndBanks();
        x.mount(6, 1);
        for (int i : new int[] {-1, 0, 99}) {
            Check.due("of a knob, at " + i, x.what(5, i), WRONG);
            Check.due("of a fader, at " + i, x.what(6, i), WRONG);
        }
    }

    static void terms2_take_noSuchPlace() {
        CordBoard x = Desks.ofTracks();
        CordBoard y = Desks.ofStripsAndBanks();
        for (int i : Desks.NO_PLACES_OF_3) {
            for (int kind = 0; kind < 8; kind++) {
                Check.due("of kind " + kind + " at " + i, x.what(kind, i), PLACE);
            }
            for (int socket = 0; socket < 4; socket++) {
                Check.due("of sort " + (8 + socket) + " at " + i, y.what(socket, i), PLACE);
            }
        }
    }

    static void terms2_take_aRowWithoutPlacesHasNone() {
        CordBoard x = new CordBoard();
        for (int sort = 0; sort < 12; sort++) {
            x.plug(0, sort, 0);
            Check.due("of sort " + sort, x.what(0, 0), PLACE);
        }
    }

    static void terms2_take_leavesItWhereItIs() {
        CordBoard x = Desks.ofStripsAndBanks();
        for (int n = 0; n < 2; n++) {
            Check.due("a knob", x.what(0, 0), 0);
            Check.due("a row", x.what(2, 0), 102);
            Check.due("a number", x.what(4, 0), 204);
        }
        Desks.carries(x, "a knob", Desks.at(0, 0), Desks.at(0, 2), -1, 0, NONE);
        Check.due("where it was", x.what(0, 0), 0);
        Check.due("where it came", x.what(0, 2), 0);
    }

    // ---- LAY

    static void terms2_lay_emptyAheadOfAll() {
        CordBoard x = Desks.ofStripsAndBanks();
        for (int i : new int[] {-1, 0, 99}) {
            Check.due("nothing", x.lay(9, i, NONE), EMPTY);
            Check.due("a knob", x.lay(9, i, 0), EMPTY);
            Check.due("a row", x.row(9, i, 1), EMPTY);
        }
        Desks.carries(x, "a number", Desks.at(4, 0), Desks.at(9, -1), -1, 1, 1);
    }

    static void terms2_lay_intoAKnobItselfIsWrongAheadOfPlace() {
        CordBoard x = Desks.ofStripsAndBanks();
        for (int i : new int[] {-1, 0, 99}) {
            Check.due("nothing", x.lay(5, i, NONE), WRONG);
            Check.due("a knob", x.lay(5, i, 0), WRONG);
            Check.due("a row", x.row(5, i, 1), WRONG);
        }
        Desks.carries(x, "a number", Desks.at(4, 0), Desks.at(5, -1), -1, 2, 1);
    }

    static void terms2_lay_nothingIntoATrackIsWrong() {
        CordBoard x = Desks.ofTracks();
        for (int kind = 0; kind < 8; kind++) {
            Check.due("kind " + kind, x.lay(kind, 1, NONE), WRONG);
        }
    }

    static void terms2_lay_nothingIntoATrackIsWrongAheadOfPlace() {
        CordBoard x = Desks.ofTracks();
        for (int kind = 0; kind < 8; kind++) {
            for (int i : Desks.NO_PLACES_OF_3) {
                Check.due("kind " + kind + " at " + i, x.lay(kind, i, NONE), WRONG);
            }
        }
        CordBoard y = Desks.ofStripsAndBanks();
        Desks.carries(y, "by a cable", Desks.at(0, 2), Desks.at(4, 3), -1, 2, 1);
    }

    static void terms2_lay_noSuchPlaceOfATrackAheadOfNoNumber() {
        CordBoard x = Desks.ofTracks();
        for (int kind = 0; kind < 8; kind++) {
            for (int i : Desks.NO_PLACES_OF_3) {
                Check.due("a knob, kind " + kind + " at " + i, x.lay(kind, i, 0), PLACE);
                Check.due("a row, kind " + kind + " at " + i, x.row(kind, i, 1), PLACE);
            }
        }
    }

    static void terms2_lay_noSuchPlaceOfATrackAheadOfKinds() {
        CordBoard x = Desks.ofTracks();
        Desks.carries(x, "a long to ints, behind", Desks.at(5, 0), Desks.at(4, 3), -1, 3, 1);
        Desks.carries(x, "a long to ints, ahead", Desks.at(5, 0), Desks.at(4, -1), -1, 3, 1);
    }

    static void terms2_lay_noNumberIntoATrackIsWrong() {
        CordBoard x = Desks.ofTracks();
        for (int kind = 0; kind < 8; kind++) {
            Check.due("a knob, kind " + kind, x.lay(kind, 0, 0), WRONG);
            Check.due("a fader, kind " + kind, x.lay(kind, 2, 1), WRONG);
            Check.due("a row, kind " + kind, x.row(kind, 1, 1), WRONG);
            Desks.stands(x, kind, 0, kind, 0);
        }
        CordBoard y = Desks.ofStripsAndBanks();
        y.plug(6, 7, 3);
        Desks.carries(y, "a row of ints to ints", Desks.at(2, 0), Desks.at(4, 0), -1, 2, 1);
        Desks.carries(y, "a row of doubles to doubles", Desks.at(3, 0), Desks.at(6, 0), -1, 2, 1);
        Desks.carries(y, "a knob to ints", Desks.at(0, 0), Desks.at(4, 0), -1, 2, 1);
    }

    static void terms2_lay_aNumberThatDoesNotGoIntoATrackIsWrong() {
        CordBoard x = Desks.ofTracks();
        Desks.carries(x, "a long to ints", Desks.at(5, 0), Desks.at(4, 0), -1, 2, 1);
        Desks.carries(x, "a short to chars", Desks.at(3, 0), Desks.at(2, 0), -1, 2, 1);
        Desks.carries(x, "a truth to bytes", Desks.at(0, 0), Desks.at(1, 0), -1, 2, 1);
    }

    static void terms2_lay_aNumberThatGoesIntoATrackIsWidened() {
        CordBoard x = Desks.ofTracks();
        x.dial(1, 0, 1, -7);
        for (int kind = 3; kind < 8; kind++) {
            Desks.carries(x, "a byte to kind " + kind, Desks.at(1, 0), Desks.at(kind, 2), -1, 0, NONE);
        }
        long[] want = {-7, -7, -7, Float.floatToIntBits(-7), Double.doubleToLongBits(-7)};
        for (int kind = 3; kind < 8; kind++) {
            Desks.stands(x, kind, 2, kind, want[kind - 3]);
        }
    }

    static void terms2_lay_noSuchPlaceOfOthersAheadOfWhatDoesNotFit() {
        CordBoard x = Desks.ofStripsAndBanks();
        for (int i : Desks.NO_PLACES_OF_3) {
            for (int socket = 0; socket < 4; socket++) {
                String name = "into sort " + (8 + socket) + " at " + i;
                Check.due("nothing " + name, x.lay(socket, i, NONE), PLACE);
                Check.due("a knob " + name, x.lay(socket, i, 0), PLACE);
                Check.due("a row " + name, x.row(socket, i, 1), PLACE);
            }
        }
        Desks.carries(x, "a number to knobs", Desks.at(4, 0), Desks.at(0, 3), -1, 3, 1);
        Desks.carries(x, "a number to rows", Desks.at(4, 0), Desks.at(2, -1), -1, 3, 1);
    }

    static void terms2_lay_nothingFitsEachOfTheOthers() {
        CordBoard x = Desks.ofStripsAndBanks();
        for (int socket = 0; socket < 4; socket++) {
            for (int i = 0; i < 3; i++) {
                Check.due("nothing into sort " + (8 + socket), x.lay(socket, i, NONE), 0);
                Check.due("what", x.what(socket, i), NONE);
            }
        }
        CordBoard y = Desks.ofStripsAndBanks();
        for (int socket = 0; socket < 4; socket++) {
            Desks.carries(y, "out of faders", Desks.at(1, 2), Desks.at(socket, 0), -1, 0, NONE);
            Check.due("what", y.what(socket, 0), NONE);
        }
    }

    static void terms2_lay_aKnobFits8Alone() {
        fits(Desks.at(0, 0), 0, 8);
    }

    static void terms2_lay_aFaderFits8And9() {
        fits(Desks.at(0, 1), 1, 8, 9);
    }

    static void terms2_lay_aFaderOutOfFadersFits8And9() {
        fits(Desks.at(1, 1), 1, 8, 9);
    }

    static void terms2_lay_aRowOfIntsFits10Alone() {
        fits(Desks.at(2, 0), 102, 10);
    }

    static void terms2_lay_aRowOfDoublesFits11Alone() {
        fits(Desks.at(3, 0), 102, 11);
    }

    static void terms2_lay_aRowWithoutPlacesFitsByItsKindToo() {
        CordBoard x = Desks.ofStripsAndBanks();
        x.row(2, 0, 0);
        x.row(3, 0, 0);
        Desks.carries(x, "no ints to ints", Desks.at(2, 0), Desks.at(2, 1), -1, 0, NONE);
        Desks.carries(x, "no ints to doubles", Desks.at(2, 0), Desks.at(3, 1), -1, 2, 1);
        Desks.carries(x, "no doubles to ints", Desks.at(3, 0), Desks.at(2, 1), -1, 2, 1);
        Desks.carries(x, "no doubles to doubles", Desks.at(3, 0), Desks.at(3, 1), -1, 0, NONE);
    }

    static void terms2_lay_aNumberFitsNoneOfTheOthers() {
        for (int kind = 0; kind < 8; kind++) {
            CordBoard x = Desks.ofStripsAndBanks();
            x.plug(4, kind, 1);
            for (int socket = 0; socket < 4; socket++) {
                Desks.carries(x, "kind " + kind, Desks.at(4, 0), Desks.at(socket, 2), -1, 2, 1);
            }
        }
    }

    /** What stands at a place of the desk of strips and banks, laid by a cable into each of the sorts 8 .. 11. */
    private static void fits(int[] from, int what, int... sorts) {
        CordBoard x = Desks.ofStripsAndBanks();
        for (int sort = 8; sort < 12; sort++) {
            boolean fit = false;
            for (int fitting : sorts) {
                fit |= fitting == sort;
            }
            Desks.carries(x, "to sort " + sort, from, Desks.at(sort - 8, 2), -1, fit ? 0 : 2, fit ? NONE : 1);
            Check.due("what in sort " + sort, x.what(sort - 8, 2), fit ? what : NONE);
        }
    }
}
