/** Promises 15 to 19: cable, in, out, tick, told. */
public final class Promises15To19Test {
    private static final int NONE = CordBoard.NONE, UNKNOWN = CordBoard.UNKNOWN, OUTSIDE = CordBoard.OUTSIDE;
    private static final int LEAST = Desks.LEAST, GREATEST = Desks.GREATEST;

    /** What names no cable of a desk that has one. */
    private static final int[] NO_CABLES = {-1, 1, 11, 12, LEAST, GREATEST};

    public static void main(String[] args) throws ReflectiveOperationException {
        Sentences.run(Promises15To19Test.class);
    }

    // ---- promise 15: cable

    static void promise15_numbersFrom0To11() {
        CordBoard x = new CordBoard();
        for (int number = 0; number < 12; number++) {
            Check.due("cable", x.cable(0, 0, 0, 9, 0, 0, 4, 0), number);
            Check.due("how many", x.about(1), number + 1);
        }
    }

    static void promise15_placesMayBeAny() {
        CordBoard x = new CordBoard();
        int[] places = {LEAST, -1, 0, 16, GREATEST};
        for (int n = 0; n < places.length; n++) {
            int k = places[places.length - 1 - n];
            Check.due("cable", x.cable(0, places[n], 0, 9, k, 0, 4, 0), n);
            Desks.cord(x, n, 1, places[n], k, 0, 0, NONE, 0);
        }
    }

    static void promise15_socketsMayBeEmpty() {
        Check.due("cable", new CordBoard().cable(9, 0, 1, 0, 0, 1, -1, 0), 0);
    }

    static void promise15_nothingIsCarriedAheadOfATick() {
        CordBoard x = Desks.ofInts();
        x.cable(0, 0, 1, 1, 0, 1, 4, 0);
        Desks.ints(x, 1, 0, 0, 0, 0);
        Desks.cord(x, 0, 1, 0, 0, 0, 0, NONE, 0);
    }

    static void promise15_eachWayAndRule() {
        for (int way = -1; way < 8; way++) {
            CordBoard x = new CordBoard();
            for (int rule = 0; rule < 3; rule++) {
                Check.due("way " + way + ", rule " + rule, x.cable(0, 0, 0, 0, 0, 0, way, rule), rule);
            }
        }
    }

    static void promise15_stepsOfMinus4And4() {
        CordBoard x = new CordBoard();
        Check.due("from -4 to 4", x.cable(0, 0, -4, 0, 0, 4, 0, 0), 0);
        Check.due("from 4 to -4", x.cable(0, 0, 4, 0, 0, -4, 0, 0), 1);
    }

    static void promise15_unknownSockets() {
        for (int socket : Desks.NO_SOCKETS) {
            Desks.unchanged("from " + socket, x -> x.cable(socket, 0, 0, 0, 0, 0, 0, 0), UNKNOWN);
            Desks.unchanged("to " + socket, x -> x.cable(0, 0, 0, socket, 0, 0, 0, 0), UNKNOWN);
        }
    }

    static void promise15_outsideSteps() {
        for (int step : new int[] {-5, 5, LEAST, GREATEST}) {
            Desks.unchanged("from by " + step, x -> x.cable(0, 0, step, 0, 0, 0, 0, 0), OUTSIDE);
            Desks.unchanged("to by " + step, x -> x.cable(0, 0, 0, 0, 0, step, 0, 0), OUTSIDE);
        }
    }

    static void promise15_outsideWay() {
        for (int way : new int[] {-2, 8, LEAST, GREATEST}) {
            Desks.unchanged("way " + way, x -> x.cable(0, 0, 0, 0, 0, 0, way, 0), OUTSIDE);
        }
    }

    static void promise15_outsideRule() {
        for (int rule : new int[] {-1, 3, LEAST, GREATEST}) {
            Desks.unchanged("rule " + rule, x -> x.cable(0, 0, 0, 0, 0, 0, 0, rule), OUTSIDE);
        }
    }

    static void promise15_unknownAheadOfOutside() {
        for (int socket : Desks.NO_SOCKETS) {
            Desks.unchanged("from, and steps", x -> x.cable(socket, 0, 5, 0, 0, -5, 0, 0), UNKNOWN);
            Desks.unchanged("to, and way and rule", x -> x.cable(0, 0, 0, socket, 0, 0, 8, 3), UNKNOWN);
        }
    }

    static void promise15_unknownAheadOfFull() {
        Desks.unchangedWhenFull("from", x -> x.cable(10, 0, 0, 0, 0, 0, 0, 0), UNKNOWN);
        Desks.unchangedWhenFull("to", x -> x.cable(0, 0, 0, -1, 0, 0, 0, 0), UNKNOWN);
    }

    static void promise15_outsideAheadOfFull() {
        Desks.unchangedWhenFull("step from", x -> x.cable(0, 0, 5, 0, 0, 0, 0, 0), OUTSIDE);
        Desks.unchangedWhenFull("step to", x -> x.cable(0, 0, 0, 0, 0, -5, 0, 0), OUTSIDE);
        Desks.unchangedWhenFull("way", x -> x.cable(0, 0, 0, 0, 0, 0, 8, 0), OUTSIDE);
        Desks.unchangedWhenFull("rule", x -> x.cable(0, 0, 0, 0, 0, 0, 0, 3), OUTSIDE);
    }

    static void promise15_full() {
        Desks.unchangedWhenFull("cable 12", x -> x.cable(0, 0, 0, 0, 0, 0, 0, 0), CordBoard.FULL);
        CordBoard x = Desks.inUseAndFull();
        x.cable(0, 0, 0, 0, 0, 0, 0, 0);
        Check.due("the one refused is not there", x.told(12, 0), UNKNOWN);
    }

    static void promise15_fullOfCablesThatAreOutToo() {
        CordBoard x = Desks.inUseAndFull();
        for (int cable = 0; cable < 12; cable++) {
            x.out(cable);
        }
        Check.due("cable 12", x.cable(0, 0, 0, 0, 0, 0, 0, 0), CordBoard.FULL);
    }

    // ---- promise 16: in

    /** A cable that has moved twice, then had a cause: out at 3 and 4, from 1 and 0 on. */
    private static CordBoard withACableOut() {
        CordBoard x = Desks.ofInts();
        x.cable(0, 1, 1, 1, 0, 2, 4, 0);
        x.tick(3);
        return x;
    }

    static void promise16_1IfItWasOut() {
        CordBoard x = withACableOut();
        Check.due("in(0)", x.in(0), 1);
        Check.due("told(0, IN)", x.told(0, Desks.IN), 1);
        Check.due("about(2)", x.about(2), 1);
    }

    static void promise16_0IfItWasIn() {
        CordBoard x = Desks.ofInts();
        x.cable(0, 1, 1, 1, 0, 2, 4, 0);
        Check.due("in(0)", x.in(0), 0);
        Check.due("told(0, IN)", x.told(0, Desks.IN), 1);
    }

    static void promise16_bothPlacesAsAtTheBeginningIfItWasOut() {
        CordBoard x = withACableOut();
        Desks.cord(x, 0, 0, 3, 4);
        x.in(0);
        Desks.cord(x, 0, 1, 1, 0);
    }

    static void promise16_bothPlacesAsAtTheBeginningIfItWasIn() {
        CordBoard x = Desks.ofInts();
        x.cable(0, 1, 1, 1, 0, 2, 4, 0);
        x.tick(1);
        Desks.cord(x, 0, 1, 2, 2);
        Check.due("in(0)", x.in(0), 0);
        Desks.cord(x, 0, 1, 1, 0);
    }

    static void promise16_whatIsToldOfItElseStays() {
        CordBoard x = withACableOut();
        x.in(0);
        Desks.cord(x, 0, 1, 1, 0, 2, 3, 1, 1);
    }

    static void promise16_itIsCarriedAgain() {
        CordBoard x = withACableOut();
        x.dial(0, 1, 4, 55);
        x.in(0);
        Check.due("tick", x.tick(1), 1);
        Desks.ints(x, 1, 55, 0, 12, 0);
    }

    static void promise16_theOtherCablesStayAsTheyAre() {
        CordBoard x = Desks.ofInts();
        x.cable(0, 0, 1, 1, 0, 1, 4, 0);
        x.cable(0, 0, 1, 1, 0, 1, 4, 0);
        x.tick(2);
        x.out(0);
        x.out(1);
        x.in(0);
        Desks.cord(x, 0, 1, 0, 0, 2);
        Desks.cord(x, 1, 0, 2, 2, 2);
    }

    static void promise16_unknown() {
        for (int cable : NO_CABLES) {
            CordBoard left = withACableOut();
            Desks.unchanged("in(" + cable + ")", withACableOut(), left, x -> x.in(cable), UNKNOWN);
        }
    }

    // ---- promise 17: out

    static void promise17_1IfItWasIn() {
        CordBoard x = Desks.ofInts();
        x.cable(0, 1, 1, 1, 0, 2, 4, 0);
        Check.due("out(0)", x.out(0), 1);
        Check.due("told(0, IN)", x.told(0, Desks.IN), 0);
        Check.due("about(2)", x.about(2), 0);
    }

    static void promise17_0IfItWasOut() {
        CordBoard x = withACableOut();
        Check.due("out(0)", x.out(0), 0);
        Check.due("told(0, IN)", x.told(0, Desks.IN), 0);
        Check.due("out(0) again", x.out(0), 0);
    }

    static void promise17_whatIsToldOfItElseStays() {
        CordBoard x = Desks.ofInts();
        x.cable(0, 1, 1, 1, 0, 2, 4, 0);
        x.tick(1);
        x.out(0);
        Desks.cord(x, 0, 0, 2, 2, 1, 0, NONE, 0);
    }

    static void promise17_ticksPassItBy() {
        CordBoard x = Desks.ofInts();
        x.cable(0, 1, 1, 1, 0, 2, 4, 0);
        x.cable(9, 0, 1, 9, 0, 1, 4, 1);
        x.out(0);
        x.out(1);
        Check.due("tick", x.tick(8), 0);
        Desks.cord(x, 0, 0, 1, 0, 0, 0, NONE, 0);
        Desks.cord(x, 1, 0, 0, 0, 0, 0, NONE, 0);
        Desks.ints(x, 1, 0, 0, 0, 0);
    }

    static void promise17_unknown() {
        for (int cable : NO_CABLES) {
            CordBoard one = Desks.ofInts();
            CordBoard other = Desks.ofInts();
            one.cable(0, 1, 1, 1, 0, 2, 4, 0);
            other.cable(0, 1, 1, 1, 0, 2, 4, 0);
            Desks.unchanged("out(" + cable + ")", one, other, x -> x.out(cable), UNKNOWN);
        }
    }

    // ---- promise 18: tick

    static void promise18_0TicksAreNone() {
        CordBoard x = Desks.ofInts();
        x.cable(0, 0, 1, 1, 0, 1, 4, 0);
        x.cable(9, 0, 1, 1, 0, 1, 4, 0);
        Check.due("tick(0)", x.tick(0), 0);
        Check.due("about(3)", x.about(3), 0);
        Desks.ints(x, 1, 0, 0, 0, 0);
        Desks.cord(x, 0, 1, 0, 0, 0, 0, NONE, 0);
        Desks.cord(x, 1, 1, 0, 0, 0, 0, NONE, 0);
    }

    static void promise18_from1To8Ticks() {
        for (int n = 1; n <= 8; n++) {
            CordBoard x = new CordBoard();
            x.plug(0, 4, 16);
            x.cable(0, 0, 1, 0, 0, 1, 4, 0);
            Check.due("tick(" + n + ")", x.tick(n), n);
            Check.due("about(3)", x.about(3), n);
            Desks.cord(x, 0, 1, n, n, n);
        }
    }

    static void promise18_oneAfterTheOther() {
        CordBoard x = Desks.ofInts();
        x.cable(0, 0, 1, 1, 0, 0, 4, 0);
        x.cable(1, 0, 0, 1, 1, 1, 4, 0);
        Check.due("tick(3)", x.tick(3), 6);
        Desks.ints(x, 1, 12, 10, 11, 12);
    }

    static void promise18_asTheSameTicksByCallsOfTheirOwn() {
        CordBoard x = Desks.inUse();
        CordBoard y = Desks.inUse();
        int moves = 0;
        for (int n = 0; n < 8; n++) {
            moves += y.tick(1);
        }
        Desks.unchanged("tick(8)", x, y, desk -> desk.tick(8), moves);
    }

    static void promise18_howOftenACableMovedInThisCall() {
        CordBoard x = Desks.ofInts();
        x.cable(0, 0, 0, 1, 0, 0, 4, 0);
        x.cable(0, 0, 0, 1, 0, 0, 4, 0);
        x.cable(9, 0, 0, 1, 0, 0, 4, 1);
        Check.due("tick(3)", x.tick(3), 6);
        Check.due("tick(1)", x.tick(1), 2);
        x.out(0);
        Check.due("tick(5)", x.tick(5), 5);
    }

    static void promise18_twelveCablesEightTimes() {
        CordBoard x = Desks.ofInts();
        for (int n = 0; n < 12; n++) {
            x.cable(0, 0, 0, 1, 0, 0, -1, 0);
        }
        Check.due("tick(8)", x.tick(8), 96);
    }

    static void promise18_withoutCables() {
        CordBoard x = new CordBoard();
        Check.due("tick(8)", x.tick(8), 0);
        Check.due("about(3)", x.about(3), 8);
    }

    static void promise18_outsideN() {
        for (int n : new int[] {-1, 9, LEAST, GREATEST}) {
            Desks.unchanged("tick(" + n + ")", x -> x.tick(n), OUTSIDE);
        }
    }

    // ---- promise 19: told

    static void promise19_whetherItIsIn() {
        CordBoard x = Desks.ofInts();
        x.cable(0, 0, 1, 1, 0, 1, 4, 0);
        Check.due("told(0, 0)", x.told(0, 0), 1);
        x.out(0);
        Check.due("told(0, 0)", x.told(0, 0), 0);
    }

    static void promise19_thePlacesFromAndTo() {
        CordBoard x = Desks.ofInts();
        x.cable(0, 3, -1, 1, -7, 4, -1, 1);
        Check.due("told(0, 1)", x.told(0, 1), 3);
        Check.due("told(0, 2)", x.told(0, 2), -7);
        x.tick(2);
        Check.due("told(0, 1)", x.told(0, 1), 1);
        Check.due("told(0, 2)", x.told(0, 2), 1);
    }

    static void promise19_howOftenItMoved() {
        CordBoard x = Desks.ofInts();
        x.cable(0, 0, 1, 1, 0, 1, -1, 1);
        Check.due("told(0, 3)", x.told(0, 3), 0);
        x.tick(6);
        Check.due("told(0, 3)", x.told(0, 3), 4);
        x.in(0);
        x.tick(1);
        Check.due("told(0, 3)", x.told(0, 3), 5);
    }

    static void promise19_noCauseYetIs0() {
        CordBoard x = Desks.ofInts();
        x.cable(0, 0, 0, 1, 0, 0, -1, 1);
        x.tick(8);
        Check.due("told(0, 4)", x.told(0, 4), 0);
    }

    static void promise19_noSideYetIsNone() {
        CordBoard x = Desks.ofInts();
        x.cable(0, 0, 0, 1, 0, 0, -1, 1);
        x.tick(8);
        Check.due("told(0, 5)", x.told(0, 5), NONE);
    }

    static void promise19_theLatestCauseAndItsSide() {
        CordBoard x = Desks.ofInts();
        x.cable(0, 3, 1, 1, 0, 0, -1, 1);
        x.tick(2);
        Check.due("told(0, 4)", x.told(0, 4), 3);
        Check.due("told(0, 5)", x.told(0, 5), 0);
        x.in(0);
        x.plug(1, 13, 0);
        x.tick(1);
        Check.due("told(0, 4)", x.told(0, 4), 1);
        Check.due("told(0, 5)", x.told(0, 5), 1);
    }

    static void promise19_theLatestCauseStaysThroughMoves() {
        CordBoard x = Desks.ofInts();
        x.cable(0, -1, 1, 1, 0, 0, -1, 1);
        Check.due("a cause, then moves", x.tick(4), 3);
        Desks.cord(x, 0, 1, 3, 0, 3, 3, 0, 1);
    }

    static void promise19_howManyCauses() {
        CordBoard x = Desks.ofInts();
        x.cable(0, -3, 1, 1, 0, 0, -1, 1);
        Check.due("told(0, 6)", x.told(0, 6), 0);
        for (int n = 1; n <= 3; n++) {
            x.tick(1);
            Check.due("told(0, 6)", x.told(0, 6), n);
        }
        x.tick(4);
        Check.due("told(0, 6)", x.told(0, 6), 3);
        x.tick(1);
        Check.due("told(0, 6)", x.told(0, 6), 4);
    }

    static void promise19_ofEachCableItsOwn() {
        CordBoard x = Desks.ofInts();
        x.cable(0, 0, 1, 1, 0, 1, -1, 0);
        x.cable(9, 5, 1, 1, 6, -1, -1, 1);
        x.tick(2);
        Desks.cord(x, 0, 1, 2, 2, 2, 0, NONE, 0);
        Desks.cord(x, 1, 1, 7, 4, 0, 1, 0, 2);
    }

    static void promise19_theLastCableOfAll() {
        CordBoard x = Desks.inUseAndFull();
        Desks.cord(x, 11, 1, 11, 0, 0, 0, NONE, 0);
    }

    static void promise19_unknown() {
        for (int cable : NO_CABLES) {
            CordBoard left = withACableOut();
            Desks.unchanged("told(" + cable + ", 0)", withACableOut(), left, x -> x.told(cable, 0), UNKNOWN);
        }
        Check.due("none there", new CordBoard().told(0, 0), UNKNOWN);
    }

    static void promise19_unknownAheadOfOutside() {
        Desks.unchanged("told(2, 7)", x -> x.told(2, 7), UNKNOWN);
        Desks.unchanged("told(-1, -1)", x -> x.told(-1, -1), UNKNOWN);
    }

    static void promise19_outsideWhat() {
        for (int what : new int[] {-1, 7, LEAST, GREATEST}) {
            Desks.unchanged("told(0, " + what + ")", x -> x.told(0, what), OUTSIDE);
        }
    }
}
