/** Terms, 3 CABLES: what they have, what a tick does with each, the rules, and the hundredth cause. */
public final class Terms3CablesTest {
    private static final int NONE = CordBoard.NONE;
    private static final int LEAST = Desks.LEAST, GREATEST = Desks.GREATEST;

    public static void main(String[] args) throws ReflectiveOperationException {
        Sentences.run(Terms3CablesTest.class);
    }

    // ---- what cables have

    static void terms3_cables_12AtMost() {
        CordBoard x = new CordBoard();
        for (int n = 0; n < 12; n++) {
            Check.isTrue("cable " + n + " is made", x.cable(0, 0, 0, 0, 0, 0, 0, 0) >= 0);
        }
        Check.due("one more", x.cable(0, 0, 0, 0, 0, 0, 0, 0), CordBoard.FULL);
    }

    static void terms3_cables_areNumberedAsTheyCome() {
        CordBoard x = new CordBoard();
        for (int n = 0; n < 12; n++) {
            Check.due("cable", x.cable(n % 10, n, 0, 9 - n % 10, -n, 0, n % 9 - 1, n % 3), n);
        }
        for (int n = 0; n < 12; n++) {
            Check.due("from", x.told(n, Desks.FROM), n);
            Check.due("to", x.told(n, Desks.TO), -n);
        }
    }

    static void terms3_cables_areInAtFirst() {
        CordBoard x = new CordBoard();
        for (int rule = 0; rule < 3; rule++) {
            Check.due("told", x.told(x.cable(0, 0, 0, 0, 0, 0, 0, rule), Desks.IN), 1);
        }
    }

    static void terms3_cables_eachEndHasItsOwnStepOfMinus4To4() {
        for (int s = -4; s <= 4; s++) {
            for (int t = -4; t <= 4; t++) {
                CordBoard x = Desks.ofInts();
                x.cable(0, 1, s, 1, 2, t, 4, 0);
                Check.due("steps " + s + " and " + t, x.tick(1), 1);
                Desks.cord(x, 0, 1, 1 + s, 2 + t);
            }
        }
    }

    // ---- a tick

    static void terms3_tick_onlyCablesThatAreIn() {
        CordBoard x = Desks.ofInts();
        x.cable(0, 0, 1, 1, 0, 1, 4, 0);
        x.cable(0, 3, -1, 1, 3, -1, 4, 0);
        x.out(0);
        Check.due("tick", x.tick(1), 1);
        Desks.cord(x, 0, 0, 0, 0, 0, 0, NONE, 0);
        Desks.cord(x, 1, 1, 2, 2, 1, 0, NONE, 0);
        Desks.ints(x, 1, 0, 0, 0, 13);
    }

    static void terms3_tick_cablesByTheirNumbers() {
        CordBoard x = Desks.ofInts();
        x.cable(0, 0, 0, 0, 1, 0, 4, 0);
        x.cable(0, 1, 0, 0, 2, 0, 4, 0);
        x.cable(0, 2, 0, 0, 3, 0, 4, 0);
        Check.due("upwards", x.tick(1), 3);
        Desks.ints(x, 0, 10, 10, 10, 10);
        CordBoard y = Desks.ofInts();
        y.cable(0, 2, 0, 0, 3, 0, 4, 0);
        y.cable(0, 1, 0, 0, 2, 0, 4, 0);
        y.cable(0, 0, 0, 0, 1, 0, 4, 0);
        Check.due("downwards", y.tick(1), 3);
        Desks.ints(y, 0, 10, 10, 11, 12);
    }

    static void terms3_tick_ofSeveralCablesTheLatestLaysLast() {
        CordBoard x = Desks.ofInts();
        x.cable(0, 1, 0, 1, 0, 0, 4, 0);
        x.cable(0, 2, 0, 1, 0, 0, 4, 0);
        x.tick(1);
        Desks.ints(x, 1, 12);
    }

    static void terms3_tick_backInByItsNumberAndNotAsItCameIn() {
        CordBoard x = Desks.ofInts();
        x.cable(0, 1, 0, 1, 0, 0, 4, 0);
        x.cable(0, 2, 0, 1, 0, 0, 4, 0);
        x.out(0);
        x.in(0);
        x.tick(1);
        Desks.ints(x, 1, 12);
    }

    static void terms3_tick_movedBothPlacesAreMoreByTheirSteps() {
        CordBoard x = Desks.ofInts();
        x.cable(0, 3, -3, 1, 0, 2, 4, 0);
        x.tick(1);
        Desks.cord(x, 0, 1, 0, 2, 1, 0, NONE, 0);
        x.tick(1);
        Desks.cord(x, 0, 1, -3, 4, 2, 0, NONE, 0);
        Desks.ints(x, 1, 13, 0, 10, 0);
    }

    static void terms3_tick_stepsOf0StayWhereTheyAre() {
        CordBoard x = Desks.ofInts();
        x.cable(0, 3, 0, 1, 2, 0, 4, 0);
        Check.due("tick", x.tick(8), 8);
        Desks.cord(x, 0, 1, 3, 2, 8, 0, NONE, 0);
    }

    static void terms3_tick_fromAPlaceToItself() {
        CordBoard x = Desks.ofInts();
        x.cable(0, 0, 1, 0, 0, 1, -1, 0);
        Check.due("tick", x.tick(4), 4);
        Desks.ints(x, 0, 10, 11, 12, 13);
    }

    static void terms3_tick_whatTheSocketHoldsThenIsWhatCounts() {
        CordBoard x = Desks.ofInts();
        x.cable(0, 0, 0, 1, 0, 0, 4, 1);
        x.plug(0, 13, 0);
        x.tick(1);
        Desks.cord(x, 0, 1, 0, 0, 0, 1, 0, 1);
        x.plug(0, 4, 1);
        x.dial(0, 0, 4, 55);
        x.plug(1, 5, 1);
        Check.due("tick", x.tick(1), 1);
        Desks.stands(x, 1, 0, 5, 55);
        x.plug(0, 1, 1);
        x.dial(0, 0, 1, -56);
        x.plug(1, 7, 1);
        Check.due("tick", x.tick(1), 1);
        Desks.stands(x, 1, 0, 7, Double.doubleToLongBits(-56.0));
    }

    static void terms3_tick_betweenSocketsThatShare() {
        CordBoard x = Desks.ofInts();
        x.share(1, 0);
        x.cable(0, 0, 1, 1, 1, 1, 4, 0);
        Check.due("tick", x.tick(3), 3);
        Desks.ints(x, 0, 10, 10, 10, 10);
    }

    static void terms3_tick_seenStaysAsItIs() {
        CordBoard x = Desks.ofInts();
        x.level(0);
        x.cable(0, 0, 1, 1, 0, 1, 4, 0);
        x.cable(0, 3, -1, 1, 0, 0, -1, 1);
        x.tick(8);
        Check.due("seen", x.seen(), 46);
    }

    // ---- ways

    static void terms3_way_asItIsTakesAndLaysKnobs() {
        CordBoard x = Desks.ofStripsAndBanks();
        Desks.carries(x, "a fader to faders", Desks.at(0, 1), Desks.at(1, 0), -1, 0, NONE);
        Check.due("what", x.what(1, 0), 1);
    }

    static void terms3_way_asItIsTakesAndLaysTheSameRow() {
        CordBoard x = Desks.ofStripsAndBanks();
        Desks.carries(x, "a row to a bank", Desks.at(2, 0), Desks.at(2, 2), -1, 0, NONE);
        x.enter(2, 0, 1, 4, 66);
        x.inner(2, 2, 1, 4);
        Check.due("what is written at one place is seen at the other", x.seen(), 66);
    }

    static void terms3_way_asItIsTakesAndLaysNothing() {
        CordBoard x = Desks.ofStripsAndBanks();
        Desks.carries(x, "nothing over a knob", Desks.at(1, 0), Desks.at(0, 0), -1, 0, NONE);
        Check.due("what", x.what(0, 0), NONE);
    }

    static void terms3_way_asItIsTakesAndLaysNumbers() {
        CordBoard x = Desks.ofTracks();
        x.dial(0, 0, 0, 1);
        Desks.carries(x, "a truth to truths", Desks.at(0, 0), Desks.at(0, 2), -1, 0, NONE);
        Desks.stands(x, 0, 2, 0, 1);
    }

    static void terms3_way_asOfAKindReadsAndWritesTracksAlone() {
        for (int way = 0; way < 8; way++) {
            CordBoard x = Desks.ofStripsAndBanks();
            x.plug(4, way, 3);
            for (int socket : new int[] {0, 1, 2, 3, 5}) {
                Desks.carries(x, "out of socket " + socket, Desks.at(socket, 9), Desks.at(4, 0), way, 2, 0);
                Desks.carries(x, "into socket " + socket, Desks.at(4, 0), Desks.at(socket, 9), way, 2, 1);
            }
        }
    }

    static void terms3_way_asOfAKindGoesFromTrackToWayToTrack() {
        for (int from = 0; from < 8; from++) {
            for (int to = 0; to < 8; to++) {
                for (int way = 0; way < 8; way++) {
                    CordBoard x = new CordBoard();
                    x.plug(0, from, 1);
                    x.plug(1, to, 1);
                    boolean read = Numbers.goesFor(from, way);
                    boolean moves = read && Numbers.goesFor(way, to);
                    Desks.carries(x, "from " + from + " as of " + way + " to " + to, Desks.at(0, 0), Desks.at(1, 0),
                            way, moves ? 0 : 2, moves ? NONE : read ? 1 : 0);
                }
            }
        }
    }

    static void terms3_way_asOfAKindIsWidenedTwice() {
        CordBoard x = new CordBoard();
        x.plug(0, 5, 1);
        x.plug(1, 7, 1);
        x.dial(0, 0, 5, 16777217);
        Desks.carries(x, "a long as of a float to doubles", Desks.at(0, 0), Desks.at(1, 0), 6, 0, NONE);
        Desks.stands(x, 1, 0, 7, Double.doubleToLongBits(16777216.0));
        Desks.carries(x, "a long as it is to doubles", Desks.at(0, 0), Desks.at(1, 0), -1, 0, NONE);
        Desks.stands(x, 1, 0, 7, Double.doubleToLongBits(16777217.0));
    }

    // ---- causes

    static void terms3_cause_emptyFrom() {
        CordBoard x = Desks.ofInts();
        Desks.carries(x, "as it is", Desks.at(9, 0), Desks.at(1, 0), -1, 1, 0);
        Desks.carries(x, "as of a kind", Desks.at(9, 0), Desks.at(1, 0), 4, 1, 0);
    }

    static void terms3_cause_emptyTo() {
        CordBoard x = Desks.ofInts();
        Desks.carries(x, "as it is", Desks.at(0, 0), Desks.at(9, 0), -1, 1, 1);
        Desks.carries(x, "as of a kind", Desks.at(0, 0), Desks.at(9, 0), 4, 1, 1);
    }

    static void terms3_cause_wrongFrom() {
        CordBoard x = Desks.ofStripsAndBanks();
        Desks.carries(x, "a knob itself, as it is", Desks.at(5, 0), Desks.at(0, 0), -1, 2, 0);
        Desks.carries(x, "a knob itself, as of a kind", Desks.at(5, 0), Desks.at(4, 0), 4, 2, 0);
        Desks.carries(x, "no track", Desks.at(0, 0), Desks.at(4, 0), 4, 2, 0);
        Desks.carries(x, "an int as of a short", Desks.at(4, 0), Desks.at(4, 1), 3, 2, 0);
    }

    static void terms3_cause_wrongTo() {
        CordBoard x = Desks.ofStripsAndBanks();
        Desks.carries(x, "a knob itself, as it is", Desks.at(0, 0), Desks.at(5, 0), -1, 2, 1);
        Desks.carries(x, "a knob itself, as of a kind", Desks.at(4, 0), Desks.at(5, 0), 4, 2, 1);
        Desks.carries(x, "a knob to faders", Desks.at(0, 0), Desks.at(1, 0), -1, 2, 1);
        Desks.carries(x, "an int as of a long to ints", Desks.at(4, 0), Desks.at(4, 1), 5, 2, 1);
    }

    static void terms3_cause_placeFrom() {
        for (int i : new int[] {-1, 4, LEAST, GREATEST}) {
            CordBoard x = Desks.ofInts();
            Desks.carries(x, "as it is, from " + i, Desks.at(0, i), Desks.at(1, 0), -1, 3, 0);
            Desks.carries(x, "as of a kind, from " + i, Desks.at(0, i), Desks.at(1, 0), 4, 3, 0);
        }
    }

    static void terms3_cause_placeTo() {
        for (int k : new int[] {-1, 4, LEAST, GREATEST}) {
            CordBoard x = Desks.ofInts();
            Desks.carries(x, "as it is, to " + k, Desks.at(0, 0), Desks.at(1, k), -1, 3, 1);
            Desks.carries(x, "as of a kind, to " + k, Desks.at(0, 0), Desks.at(1, k), 4, 3, 1);
        }
    }

    static void terms3_cause_fromIsLookedAtAheadOfTo() {
        CordBoard x = Desks.ofStripsAndBanks();
        Desks.carries(x, "no place to nothing", Desks.at(4, 3), Desks.at(9, 0), -1, 3, 0);
        Desks.carries(x, "no place to nothing, as of a kind", Desks.at(4, 3), Desks.at(9, 0), 4, 3, 0);
        Desks.carries(x, "a knob itself to nothing", Desks.at(5, 0), Desks.at(9, 0), -1, 2, 0);
        Desks.carries(x, "nothing to a knob itself", Desks.at(9, 0), Desks.at(5, 0), 4, 1, 0);
    }

    static void terms3_cause_carriesNothing() {
        CordBoard x = Desks.ofInts();
        x.plug(2, 5, 2);
        x.dial(2, 0, 5, 77);
        Desks.carries(x, "a long to ints", Desks.at(2, 0), Desks.at(0, 1), -1, 2, 1);
        Desks.carries(x, "an int as of a long to ints", Desks.at(0, 0), Desks.at(0, 1), 5, 2, 1);
        Desks.carries(x, "a place that is none to one that is", Desks.at(0, 4), Desks.at(0, 1), -1, 3, 0);
        Desks.ints(x, 0, 10, 11, 12, 13);
        Desks.stands(x, 2, 0, 5, 77);
    }

    static void terms3_cause_theOtherCablesGoOn() {
        CordBoard x = Desks.ofInts();
        x.cable(9, 0, 0, 1, 0, 0, 4, 0);
        x.cable(0, 1, 0, 1, 1, 0, 4, 0);
        Check.due("tick", x.tick(1), 1);
        Desks.ints(x, 1, 0, 11);
    }

    static void terms3_cause_theLatestIsNotedWithItsSide() {
        CordBoard x = Desks.ofInts();
        x.cable(0, 0, 0, 1, 0, 0, 4, 1);
        x.plug(0, 13, 0);
        x.tick(1);
        Desks.cord(x, 0, 1, 0, 0, 0, 1, 0, 1);
        x.plug(0, 4, 0);
        x.tick(1);
        Desks.cord(x, 0, 1, 0, 0, 0, 3, 0, 2);
        x.plug(0, 4, 1);
        x.plug(1, 8, 1);
        x.tick(1);
        Desks.cord(x, 0, 1, 0, 0, 0, 2, 1, 3);
    }

    // ---- rules

    static void terms3_rule0_theCableIsOutAndItsPlacesStay() {
        CordBoard x = Desks.ofInts();
        x.cable(0, 2, 1, 1, 0, 1, 4, 0);
        Check.due("two moves, then a cause", x.tick(3), 2);
        Desks.cord(x, 0, 0, 4, 2, 2, 3, 0, 1);
    }

    static void terms3_rule0_isOutForTheTicksBehind() {
        CordBoard x = Desks.ofInts();
        x.cable(0, 4, -1, 1, 0, 1, 4, 0);
        Check.due("ticks", x.tick(8), 0);
        x.tick(8);
        Desks.cord(x, 0, 0, 4, 0, 0, 3, 0, 1);
    }

    static void terms3_rule1_bothPlacesStepOnWhenItIsFrom() {
        CordBoard x = Desks.ofInts();
        x.cable(0, 4, -1, 1, 0, 2, 4, 1);
        Check.due("tick", x.tick(1), 0);
        Desks.cord(x, 0, 1, 3, 2, 0, 3, 0, 1);
        Check.due("tick", x.tick(1), 1);
        Desks.ints(x, 1, 0, 0, 13, 0);
    }

    static void terms3_rule1_bothPlacesStepOnWhenItIsTo() {
        CordBoard x = Desks.ofInts();
        x.cable(0, 0, 1, 1, -2, 2, 4, 1);
        Check.due("tick", x.tick(1), 0);
        Desks.cord(x, 0, 1, 1, 0, 0, 3, 1, 1);
        Check.due("tick", x.tick(1), 1);
        Desks.ints(x, 1, 11, 0, 0, 0);
    }

    static void terms3_rule2_bothPlacesAreAsAtTheBeginningWhenItIsFrom() {
        CordBoard x = Desks.ofInts();
        x.cable(0, 2, 1, 1, 1, 0, 4, 2);
        Check.due("two moves, then a cause", x.tick(3), 2);
        Desks.cord(x, 0, 1, 2, 1, 2, 3, 0, 1);
        Check.due("and again", x.tick(3), 2);
        Desks.cord(x, 0, 1, 2, 1, 4, 3, 0, 2);
    }

    static void terms3_rule2_bothPlacesAreAsAtTheBeginningWhenItIsTo() {
        CordBoard x = Desks.ofInts();
        x.cable(0, 0, 1, 1, 1, -1, 4, 2);
        Check.due("two moves, then a cause", x.tick(3), 2);
        Desks.cord(x, 0, 1, 0, 1, 2, 3, 1, 1);
    }

    static void terms3_rule_isLookedAtOnlyWithACause() {
        for (int rule = 0; rule < 3; rule++) {
            CordBoard x = Desks.ofInts();
            x.cable(0, 0, 1, 1, 3, -1, 4, rule);
            Check.due("rule " + rule, x.tick(4), 4);
            Desks.cord(x, 0, 1, 4, -1, 4, 0, NONE, 0);
        }
    }

    // ---- places go round as ints do

    static void terms3_places_goRoundAboveTheGreatest() {
        goesRound(GREATEST, 1, LEAST);
        goesRound(GREATEST - 1, 4, LEAST + 2);
    }

    static void terms3_places_goRoundBelowTheLeast() {
        goesRound(LEAST, -1, GREATEST);
        goesRound(LEAST + 1, -4, GREATEST - 2);
    }

    private static void goesRound(int place, int step, int want) {
        CordBoard x = Desks.ofInts();
        x.cable(0, place, step, 1, 0, 0, 4, 1);
        x.tick(1);
        Desks.cord(x, 0, 1, want, 0, 0, 3, 0, 1);
        CordBoard y = Desks.ofInts();
        y.cable(0, 0, 0, 1, place, step, -1, 1);
        y.tick(1);
        Desks.cord(y, 0, 1, 0, want, 0, 3, 1, 1);
    }

    static void terms3_places_goRoundMoreThanOnce() {
        CordBoard x = Desks.ofInts();
        x.cable(0, GREATEST, 1, 1, LEAST, -1, 4, 1);
        x.tick(2);
        Desks.cord(x, 0, 1, LEAST + 1, GREATEST - 1, 0, 3, 0, 2);
    }

    static void terms3_places_comeInFromBelowAndGoOutAbove() {
        CordBoard x = Desks.ofInts();
        x.cable(0, -2, 1, 1, -2, 1, 4, 1);
        Check.due("ticks", x.tick(8), 4);
        Desks.ints(x, 1, 10, 11, 12, 13);
        Desks.cord(x, 0, 1, 6, 6, 4, 3, 0, 4);
    }

    // ---- the hundredth cause, and each one behind that

    static void terms3_hundredth_the99thGoesByRule1Still() {
        CordBoard x = afterCauses(1, 99);
        Desks.cord(x, 0, 1, 3 + 99, -99, 0, 1, 0, 99);
    }

    static void terms3_hundredth_isOutAndPlacesStayDespiteRule1() {
        CordBoard x = afterCauses(1, 100);
        Desks.cord(x, 0, 0, 3 + 99, -99, 0, 1, 0, 100);
    }

    static void terms3_hundredth_the101stAndBehindAreOutDespiteRule1() {
        CordBoard x = afterCauses(1, 100);
        for (int causes = 101; causes < 110; causes++) {
            x.in(0);
            x.tick(2);
            Desks.cord(x, 0, 0, 3, 0, 0, 1, 0, causes);
        }
    }

    static void terms3_hundredth_the99thGoesByRule2Still() {
        CordBoard x = rewindingAfterCauses(99);
        Desks.cord(x, 0, 1, 3, 0, 99, 3, 0, 99);
    }

    static void terms3_hundredth_isOutAndPlacesStayDespiteRule2() {
        CordBoard x = rewindingAfterCauses(100);
        Desks.cord(x, 0, 0, 4, 1, 100, 3, 0, 100);
    }

    static void terms3_hundredth_the101stAndBehindAreOutDespiteRule2() {
        CordBoard x = rewindingAfterCauses(100);
        for (int causes = 101; causes < 110; causes++) {
            Check.due("in", x.in(0), 1);
            Check.due("it moves, then has a cause", x.tick(3), 1);
            Desks.cord(x, 0, 0, 4, 1, causes, 3, 0, causes);
        }
    }

    static void terms3_hundredth_ofRule0IsAsAnyOther() {
        CordBoard x = Desks.ofInts();
        x.cable(9, 3, 1, 1, 0, -1, -1, 0);
        for (int causes = 1; causes <= 102; causes++) {
            x.tick(1);
            x.in(0);
        }
        Desks.cord(x, 0, 1, 3, 0, 0, 1, 0, 102);
    }

    static void terms3_hundredth_itMovesStillWhenItIsInAgain() {
        CordBoard x = afterCauses(1, 100);
        x.in(0);
        x.plug(9, 4, 4);
        Check.due("tick", x.tick(1), 1);
        Desks.cord(x, 0, 1, 4, -1, 1, 1, 0, 100);
    }

    static void terms3_hundredth_eachCableHasItsOwnCauses() {
        CordBoard x = new CordBoard();
        for (int n = 0; n < 12; n++) {
            x.cable(9, 0, 0, 9, 0, 0, -1, 1);
        }
        Desks.ticks(x, 99);
        Check.due("all are in", x.about(2), 12);
        x.out(5);
        x.tick(1);
        Check.due("none is", x.about(2), 0);
        Check.due("causes of the one that was out", x.told(5, Desks.CAUSES), 99);
    }

    static void terms3_hundredth_inTheMidstOfACallOfTicks() {
        CordBoard x = afterCauses(1, 96);
        x.tick(8);
        Desks.cord(x, 0, 0, 3 + 99, -99, 0, 1, 0, 100);
        Check.due("ticks are counted all the same", x.about(3), 104);
    }

    /** A cable out of an empty socket: each tick is a cause. */
    private static CordBoard afterCauses(int rule, int causes) {
        CordBoard x = Desks.ofInts();
        x.cable(9, 3, 1, 1, 0, -1, -1, rule);
        Desks.ticks(x, causes);
        return x;
    }

    /** A cable of rule 2 that moves once ahead of each cause, so that its places are not those of the beginning. */
    private static CordBoard rewindingAfterCauses(int causes) {
        CordBoard x = Desks.ofInts();
        x.cable(0, 3, 1, 1, 0, 1, 4, 2);
        Desks.ticks(x, 2 * causes);
        return x;
    }
}
