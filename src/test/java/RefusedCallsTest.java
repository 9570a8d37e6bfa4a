/**
 * Every call that the document refuses, promise by promise: the numbers just beyond the bounds, the
 * least and the greatest int, each state that refuses a call, which of two exceptions comes first,
 * and "a call that throws changes nothing", looked at in all that can be seen of the desk.
 */
public final class RefusedCallsTest {
    private static final int LEAST = Integer.MIN_VALUE;
    private static final int GREATEST = Integer.MAX_VALUE;
    private static final Checks check = new Checks();
    private static final Refusals none = new Refusals(check, "new desk", LandingSlots::new);
    private static final Refusals busy = new Refusals(check, "busy desk", Desks::busy);
    private static final Refusals sixty = new Refusals(check, "sixty flights", Desks::sixtyFlights);
    private static final Refusals forty = new Refusals(check, "forty offers", Desks::fortyOffers);
    private static final Refusals fullLog = new Refusals(check, "full log", () -> Desks.logOf(200));

    public static void main(String[] args) {
        newDeskHasNothingToName();
        rateOfNoQuarter();
        rateNotFromZeroToEight();
        rateThatLosesAFrozenSlot();
        flightOfNoAirline();
        flightScheduledForNoMinute();
        flightWithEarliestOutOfBounds();
        flightBeyondSixty();
        slotOfNoFlight();
        minutesWithoutSlot();
        laterOfNoFlight();
        laterWithEarliestOutOfBounds();
        laterOfCancelledOrAirborne();
        cancelRefused();
        airborneRefused();
        swapOfNoFlight();
        swapOfOneOrOfTwoAirlines();
        swapOfFlightsThatCannot();
        offerOfNoAirline();
        offerOfOneSlot();
        offerOfNoSlots();
        offerOfWhatIsNotOwned();
        offerBeyondForty();
        dropOfNoOffer();
        sumsOfNoAirline();
        entryOfNone();
        entryOfFullLog();
        looksChangeNothing();
        check.finish();
    }

    /** Promise 1: "No slots, no flights, no offers." */
    private static void newDeskHasNothingToName() {
        for (int n : new int[] {LEAST, -1, 0, 1, 59, 60, GREATEST}) {
            none.argument("slotOf " + n, x -> x.slotOf(n));
            none.argument("later " + n, x -> x.later(n, 300));
            none.argument("cancel " + n, x -> x.cancel(n));
            none.argument("airborne " + n, x -> x.airborne(n));
            none.argument("swap " + n, x -> x.swap(n, n + 1));
            none.argument("drop " + n, x -> x.drop(n));
            none.element("ownerOf " + n, x -> x.ownerOf(n));
            none.element("flightIn " + n, x -> x.flightIn(n));
            none.element("offer of " + n, x -> x.offer(0, n, n + 1));
            none.index("entry " + n, x -> x.entry(n, 0));
        }
    }

    /** Promise 2: "IllegalArgumentException when a ... quarter ... that is named is none". */
    private static void rateOfNoQuarter() {
        for (int quarter : Refusals.beyond(0, 15)) {
            none.argument("rate of quarter " + quarter, x -> x.rate(quarter, 1));
            busy.argument("rate of quarter " + quarter, x -> x.rate(quarter, 3));
            busy.argument("rate -1 of quarter " + quarter, x -> x.rate(quarter, -1));
            busy.argument("rate 0 of quarter " + quarter, x -> x.rate(quarter, 0));
        }
        // Times 15 these wrap around to minutes at or near the first one.
        for (int quarter : new int[] {286331153, -286331153, 286331154, 1 << 28, 1 << 31}) {
            busy.argument("rate of quarter " + quarter, x -> x.rate(quarter, 3));
        }
    }

    /** Promise 2: "also when n is not 0 .. 8", and that before the frozen slot of quarter 1. */
    private static void rateNotFromZeroToEight() {
        for (int n : Refusals.beyond(0, 8)) {
            none.argument("rate " + n, x -> x.rate(0, n));
            busy.argument("rate " + n + " of quarter 0", x -> x.rate(0, n));
            busy.argument("rate " + n + " of quarter 1, with a frozen slot", x -> x.rate(1, n));
            busy.argument("rate " + n + " of quarter 15", x -> x.rate(15, n));
        }
    }

    /** Promise 2: "a frozen slot would be none any more"; the frozen one is 25, the third of rate 3. */
    private static void rateThatLosesAFrozenSlot() {
        for (int n : new int[] {0, 1, 2, 4, 5, 8}) {
            busy.state("rate " + n + " has no slot at 25", x -> x.rate(1, n));
        }
    }

    /** Promise 3: "IllegalArgumentException when a[n] ... airline ... that is named is none". */
    private static void flightOfNoAirline() {
        for (int airline : Refusals.beyond(0, 7)) {
            none.argument("flight of airline " + airline, x -> x.flight(airline, 0, 0));
            busy.argument("flight of airline " + airline, x -> x.flight(airline, 20, 20));
            sixty.argument("a bad airline before no room: " + airline, x -> x.flight(airline, 0, 0));
        }
    }

    /** Promise 3: "also when scheduled is not 0 .. 239". */
    private static void flightScheduledForNoMinute() {
        for (int scheduled : Refusals.beyond(0, 239)) {
            busy.argument("scheduled for " + scheduled, x -> x.flight(0, scheduled, 230));
            busy.argument("scheduled for " + scheduled + ", earliest 0", x -> x.flight(0, scheduled, 0));
            // Less 15 these wrap around, and must not make a bound that the earliest minute keeps.
            busy.argument("both " + scheduled, x -> x.flight(0, scheduled, scheduled));
            busy.argument("fifteen before " + scheduled, x -> x.flight(0, scheduled, scheduled - 15));
            sixty.argument("a bad minute before no room: " + scheduled, x -> x.flight(0, scheduled, 230));
        }
        // Less 15 the first two are still, and just not any more, below 0.
        for (int scheduled : new int[] {LEAST + 15, LEAST + 14, -240, -16, -15, 254, 255, 300}) {
            busy.argument("scheduled for " + scheduled, x -> x.flight(0, scheduled, 0));
            busy.argument("scheduled for " + scheduled, x -> x.flight(0, scheduled, 300));
        }
    }

    /** Promise 3: "or earliest not from scheduled - 15 (or 0, if that is more) to 300". */
    private static void flightWithEarliestOutOfBounds() {
        int[][] leastOf = {{0, 0}, {1, 0}, {14, 0}, {15, 0}, {16, 1}, {17, 2}, {120, 105}, {238, 223}, {239, 224}};
        for (int[] bound : leastOf) {
            int scheduled = bound[0];
            for (int earliest : Refusals.beyond(bound[1], 300)) {
                String call = "scheduled for " + scheduled + ", earliest " + earliest;
                busy.argument(call, x -> x.flight(0, scheduled, earliest));
            }
        }
        for (int earliest : Refusals.beyond(0, 300)) {
            sixty.argument("a bad earliest before no room: " + earliest, x -> x.flight(0, 0, earliest));
        }
    }

    /** Promise 3: "there are 60". */
    private static void flightBeyondSixty() {
        sixty.state("a 61st flight", x -> x.flight(0, 0, 0));
        sixty.state("a 61st flight", x -> x.flight(7, 239, 300));
        new Refusals(check, "sixty flights, some cancelled", () -> {
            LandingSlots x = Desks.sixtyFlights();
            x.cancel(0);
            x.cancel(59);
            return x;
        }).state("a cancelled flight is a flight", x -> x.flight(0, 0, 0));
    }

    /** Promise 5: a flight that is none. */
    private static void slotOfNoFlight() {
        for (int flight : Refusals.beyond(0, 10)) {
            busy.argument("slotOf " + flight, x -> x.slotOf(flight));
        }
        for (int flight : Refusals.beyond(0, 59)) {
            sixty.argument("slotOf " + flight, x -> x.slotOf(flight));
        }
    }

    /** Promises 6 and 7: "there is no slot at that minute". */
    private static void minutesWithoutSlot() {
        for (int minute : new int[] {LEAST, -1, 1, 4, 6, 9, 11, 14, 16, 24, 26, 224, 227, 237, 239, 240, GREATEST}) {
            busy.element("ownerOf " + minute, x -> x.ownerOf(minute));
            busy.element("flightIn " + minute, x -> x.flightIn(minute));
        }
        for (int minute : new int[] {LEAST, -1, 2, 237, 239, 240, GREATEST}) {
            sixty.element("ownerOf " + minute, x -> x.ownerOf(minute));
            sixty.element("flightIn " + minute, x -> x.flightIn(minute));
        }
    }

    /** Promise 8: a flight that is none. */
    private static void laterOfNoFlight() {
        for (int flight : Refusals.beyond(0, 10)) {
            busy.argument("later of flight " + flight, x -> x.later(flight, 100));
            busy.argument("later of flight " + flight, x -> x.later(flight, 301));
        }
        for (int flight : Refusals.beyond(0, 59)) {
            sixty.argument("later of flight " + flight, x -> x.later(flight, 100));
        }
    }

    /** Promise 8: "also when earliest is less than it was, or more than 300", of each sort of flight. */
    private static void laterWithEarliestOutOfBounds() {
        int[][] earliestOf = {{0, 0}, {1, 1}, {2, 2}, {4, 21}, {5, 5}, {6, 300}, {7, 224}, {8, 224}, {10, 6}};
        for (int[] bound : earliestOf) {
            int flight = bound[0];
            for (int earliest : Refusals.beyond(bound[1], 300)) {
                busy.argument("later of flight " + flight + " to " + earliest, x -> x.later(flight, earliest));
            }
        }
    }

    /** Promise 8: "it is cancelled or airborne"; 7 is cancelled, 5 is airborne in 25. */
    private static void laterOfCancelledOrAirborne() {
        for (int earliest : new int[] {224, 225, 300}) {
            busy.state("later of a cancelled flight to " + earliest, x -> x.later(7, earliest));
        }
        for (int earliest : new int[] {5, 6, 25, 26, 300}) {
            busy.state("later of an airborne flight to " + earliest, x -> x.later(5, earliest));
        }
    }

    /** Promise 9: a flight that is none; "it is cancelled or airborne". */
    private static void cancelRefused() {
        for (int flight : Refusals.beyond(0, 10)) {
            busy.argument("cancel of flight " + flight, x -> x.cancel(flight));
        }
        for (int flight : Refusals.beyond(0, 59)) {
            sixty.argument("cancel of flight " + flight, x -> x.cancel(flight));
        }
        busy.state("cancel of a cancelled flight", x -> x.cancel(7));
        busy.state("cancel of an airborne flight", x -> x.cancel(5));
    }

    /** Promise 10: a flight that is none; "it is airborne, or in no slot", for whatever reason. */
    private static void airborneRefused() {
        for (int flight : Refusals.beyond(0, 10)) {
            busy.argument("airborne of flight " + flight, x -> x.airborne(flight));
        }
        for (int flight : Refusals.beyond(0, 59)) {
            sixty.argument("airborne of flight " + flight, x -> x.airborne(flight));
        }
        busy.state("airborne of an airborne flight", x -> x.airborne(5));
        busy.state("airborne of an emptied flight", x -> x.airborne(4));
        busy.state("airborne of a flight that can use no slot", x -> x.airborne(6));
        busy.state("airborne of a cancelled flight", x -> x.airborne(7));
        busy.state("airborne of a flight not rationed yet", x -> x.airborne(10));
    }

    /** Promise 11: flights that are none. */
    private static void swapOfNoFlight() {
        for (int flight : Refusals.beyond(0, 10)) {
            busy.argument("swap of flight " + flight, x -> x.swap(flight, 0));
            busy.argument("swap with flight " + flight, x -> x.swap(0, flight));
            busy.argument("swap of no flight " + flight + " with itself", x -> x.swap(flight, flight));
            busy.argument("swap of flight " + flight + " with an airborne one", x -> x.swap(flight, 5));
            busy.argument("swap of a cancelled one with flight " + flight, x -> x.swap(7, flight));
        }
        for (int flight : Refusals.beyond(0, 59)) {
            sixty.argument("swap of flight " + flight, x -> x.swap(flight, 0));
            sixty.argument("swap with flight " + flight, x -> x.swap(0, flight));
        }
    }

    /** Promise 11: "also when they are one, or of two airlines", whatever else keeps them from it. */
    private static void swapOfOneOrOfTwoAirlines() {
        for (int flight = 0; flight <= 10; flight++) {
            int f = flight;
            busy.argument("swap of flight " + f + " with itself", x -> x.swap(f, f));
        }
        int[][] ofTwoAirlines = {{0, 2}, {2, 0}, {0, 5}, {5, 0}, {0, 7}, {7, 0}, {4, 10}, {10, 4}, {5, 7}, {1, 3}};
        for (int[] pair : ofTwoAirlines) {
            busy.argument("swap of " + pair[0] + " and " + pair[1], x -> x.swap(pair[0], pair[1]));
        }
    }

    /** Promise 11: "one of them is in no slot, is airborne, or cannot use the other's slot". */
    private static void swapOfFlightsThatCannot() {
        busy.state("the other is cancelled", x -> x.swap(8, 7));
        busy.state("the first is cancelled", x -> x.swap(7, 8));
        busy.state("the other can use no slot", x -> x.swap(0, 6));
        busy.state("the first can use no slot", x -> x.swap(6, 0));
        busy.state("the other is not rationed yet", x -> x.swap(2, 10));
        busy.state("the first is not rationed yet", x -> x.swap(10, 2));
        busy.state("the first is emptied, the other is airborne", x -> x.swap(4, 5));
        busy.state("the first is airborne, the other is emptied", x -> x.swap(5, 4));
        busy.state("the other cannot use 0", x -> x.swap(0, 1));
        busy.state("the first cannot use 0", x -> x.swap(1, 0));
        Refusals inTheAir = new Refusals(check, "one of two airborne", RefusedCallsTest::oneOfTwoAirborne);
        inTheAir.state("the first is airborne", x -> x.swap(0, 1));
        inTheAir.state("the other is airborne", x -> x.swap(1, 0));
        fullLog.argument("swap of two airlines", x -> x.swap(0, 2));
    }

    /** Flights 0 and 1 of one airline that could both use 0 and 5, if 0 were not airborne. */
    private static LandingSlots oneOfTwoAirborne() {
        LandingSlots x = Desks.logOf(0);
        x.airborne(0);
        return x;
    }

    /** Promise 12: an airline that is none, before all else that may be wrong. */
    private static void offerOfNoAirline() {
        for (int airline : Refusals.beyond(0, 7)) {
            busy.argument("offer of airline " + airline, x -> x.offer(airline, 0, 5));
            // A slot without owner is not one that airline -1 owns.
            busy.argument("offer of airline " + airline + ", nobody's slot", x -> x.offer(airline, 228, 232));
            busy.argument("offer of airline " + airline + ", no slots", x -> x.offer(airline, 1, 2));
            busy.argument("offer of airline " + airline + ", one slot", x -> x.offer(airline, 0, 0));
            forty.argument("a bad airline before no room: " + airline, x -> x.offer(airline, 0, 5));
        }
    }

    /** Promise 12: "also when give and want are the same", before all else that may be wrong. */
    private static void offerOfOneSlot() {
        busy.argument("its own slot for itself", x -> x.offer(0, 0, 0));
        busy.argument("another's slot for itself", x -> x.offer(0, 10, 10));
        busy.argument("nobody's slot for itself", x -> x.offer(0, 228, 228));
        busy.argument("a frozen slot for itself", x -> x.offer(2, 25, 25));
        forty.argument("one slot before no room", x -> x.offer(0, 0, 0));
        for (int minute : new int[] {LEAST, -1, 1, 239, 240, GREATEST}) {
            busy.argument("no slot for itself: " + minute, x -> x.offer(0, minute, minute));
            none.argument("no slot for itself: " + minute, x -> x.offer(0, minute, minute));
        }
    }

    /** Promise 12: "give or want is no slot", before what it does not own and before no room. */
    private static void offerOfNoSlots() {
        for (int minute : new int[] {LEAST, -1, 1, 14, 16, 26, 224, 239, 240, GREATEST}) {
            busy.element("give " + minute, x -> x.offer(0, minute, 5));
            busy.element("want " + minute, x -> x.offer(0, 0, minute));
            busy.element("want " + minute + " for another's slot", x -> x.offer(1, 0, minute));
            busy.element("neither " + minute + " nor 2", x -> x.offer(0, minute, 2));
            forty.element("no give before no room: " + minute, x -> x.offer(0, minute, 5));
            forty.element("no want before no room: " + minute, x -> x.offer(0, 0, minute));
        }
    }

    /** Promise 12: "the airline does not own give". */
    private static void offerOfWhatIsNotOwned() {
        busy.state("another's slot", x -> x.offer(1, 0, 5));
        busy.state("another's slot for its own", x -> x.offer(0, 10, 0));
        busy.state("nobody's slot", x -> x.offer(3, 228, 225));
        busy.state("another's empty slot", x -> x.offer(3, 20, 225));
        busy.state("another's frozen slot", x -> x.offer(1, 25, 10));
        busy.state("airline 7 owns nothing", x -> x.offer(7, 0, 5));
        forty.state("another's slot, and no room", x -> x.offer(1, 0, 5));
    }

    /** Promise 12: "or there are 40 offers". */
    private static void offerBeyondForty() {
        forty.state("a 41st offer", x -> x.offer(0, 0, 5));
        forty.state("a 41st offer", x -> x.offer(2, 10, 25));
        new Refusals(check, "forty offers, some dropped", () -> {
            LandingSlots x = Desks.fortyOffers();
            x.drop(0);
            x.drop(39);
            return x;
        }).state("the numbers go to 39 alone", x -> x.offer(0, 0, 5));
        new Refusals(check, "forty offers, two carried out", RefusedCallsTest::fortyWithTwoCarriedOut)
            .state("the numbers go to 39 alone", x -> x.offer(1, 0, 5));
    }

    private static LandingSlots fortyWithTwoCarriedOut() {
        LandingSlots x = Desks.threeIn();
        for (int i = 0; i < 39; i++) {
            x.offer(0, 0, 5);
        }
        x.offer(1, 5, 0);
        x.trade();
        return x;
    }

    /** Promise 13: "there is no such offer". */
    private static void dropOfNoOffer() {
        for (int offer : Refusals.beyond(0, 5)) {
            busy.argument("drop of offer " + offer, x -> x.drop(offer));
        }
        for (int offer : Refusals.beyond(0, 39)) {
            forty.argument("drop of offer " + offer, x -> x.drop(offer));
        }
    }

    /** Promises 17 and 18: an airline that is none; -1 is for all, or for nobody. */
    private static void sumsOfNoAirline() {
        for (int airline : Refusals.beyond(-1, 7)) {
            none.argument("delay of airline " + airline, x -> x.delay(airline));
            none.argument("owned by airline " + airline, x -> x.owned(airline));
            busy.argument("delay of airline " + airline, x -> x.delay(airline));
            busy.argument("owned by airline " + airline, x -> x.owned(airline));
        }
    }

    /** Promise 20: "there is none such" comes first, then "what is none of these". The log has six entries. */
    private static void entryOfNone() {
        check.same("entries of the busy desk", Desks.busy().log(), 6);
        for (int i : Refusals.beyond(0, 5)) {
            for (int what : new int[] {LEAST, -1, 0, 3, 4, GREATEST}) {
                busy.index("entry " + i + ", " + what, x -> x.entry(i, what));
            }
        }
        for (int what : Refusals.beyond(0, 3)) {
            none.index("entry 0, " + what, x -> x.entry(0, what));
            busy.argument("entry 0, " + what, x -> x.entry(0, what));
            busy.argument("entry 5, " + what, x -> x.entry(5, what));
        }
    }

    private static void entryOfFullLog() {
        for (int i : Refusals.beyond(0, 199)) {
            fullLog.index("entry " + i, x -> x.entry(i, 0));
            fullLog.index("entry " + i + ", 4", x -> x.entry(i, 4));
        }
        for (int what : Refusals.beyond(0, 3)) {
            fullLog.argument("entry 0, " + what, x -> x.entry(0, what));
            fullLog.argument("entry 199, " + what, x -> x.entry(199, what));
        }
    }

    /** Promises 5 to 7 and 16 to 20 only tell, and change nothing either. */
    private static void looksChangeNothing() {
        busy.onlyLooks("slotOf", x -> x.slotOf(0));
        busy.onlyLooks("ownerOf", x -> x.ownerOf(0));
        busy.onlyLooks("flightIn", x -> x.flightIn(0));
        busy.onlyLooks("gaps", LandingSlots::gaps);
        busy.onlyLooks("delay", x -> x.delay(-1));
        busy.onlyLooks("owned", x -> x.owned(-1));
        busy.onlyLooks("log", LandingSlots::log);
        busy.onlyLooks("entry", x -> x.entry(5, 3));
    }
}
