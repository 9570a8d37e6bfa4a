/**
 * The numbers at the edge, promise by promise, that the document still allows, and the empty and the
 * full tables. What lies just beyond is in RefusedCallsTest. No object here gets more than 512 calls.
 */
public final class EdgesTest {
    private static final int NONE = LandingSlots.NONE;
    private static final int[][] OFFSETS = {
        {}, {0}, {0, 7}, {0, 5, 10}, {0, 3, 7, 11}, {0, 3, 6, 9, 12}, {0, 2, 5, 7, 10, 12},
        {0, 2, 4, 6, 8, 10, 12}, {0, 1, 3, 5, 7, 9, 11, 13}
    };
    private static final Checks check = new Checks();

    public static void main(String[] args) {
        busyDeskIsAsSaid();
        emptyDesk();
        firstAndLastQuarter();
        everyFrozenSlotAtEveryRate();
        onlyFrozenSlotsKeepARate();
        oneOfSeveralFrozenSlots();
        rateAtWhichAllWait();
        earliestBoundsOfEveryMinute();
        airlinesZeroToSeven();
        sixtiethFlight();
        rationOfNobody();
        rationAtTheEarliestMinute();
        rationIntoLastSlot();
        rationOfFullDesk();
        slotOfIsNoneAtFirst();
        laterAtItsSlot();
        laterToTheLastMinute();
        laterOfAFlightInNoSlot();
        cancelOfAFlightInNoSlot();
        swapAtTheEarliestMinute();
        offerOfFirstAndLastSlot();
        fortiethOffer();
        dropOfFirstAndLast();
        check.finish();
    }

    /** The tests of refused calls rest on this. */
    private static void busyDeskIsAsSaid() {
        LandingSlots x = Desks.busy();
        check.slot("busy", x, 0, 0, 0);
        check.slot("busy", x, 5, 0, 1);
        check.slot("busy", x, 10, 1, 3);
        check.slot("busy", x, 15, 1, 2);
        check.slot("busy", x, 20, 2, NONE);
        check.slot("busy", x, 25, 2, 5);
        check.slot("busy", x, 225, 3, 8);
        check.slot("busy", x, 226, 3, 9);
        check.slot("busy", x, 228, NONE, NONE);
        check.slot("busy", x, 230, 3, NONE);
        for (int flight : new int[] {4, 6, 7, 10}) {
            check.same("busy: in no slot " + flight, x.slotOf(flight), NONE);
        }
        check.same("busy: entries", x.log(), 6);
        check.entry("busy", x, 0, LandingSlots.SWAPPED, 2, 10, 15);
        check.entry("busy", x, 1, LandingSlots.EMPTIED, 4, 20, NONE);
        check.entry("busy", x, 2, LandingSlots.LEFT, 7, 225, NONE);
        check.entry("busy", x, 3, LandingSlots.MOVED, 8, 226, 225);
        check.entry("busy", x, 4, LandingSlots.MOVED, 9, 228, 226);
        check.entry("busy", x, 5, LandingSlots.TRADED, NONE, 228, 230);
        check.same("busy: the offers that can be carried out", x.trade(), 2);
        boolean[] standing = {false, true, false, true, false, false};
        for (int offer = 0; offer < 6; offer++) {
            check.same("busy: drop " + offer, x.drop(offer) ? 1 : 0, standing[offer] ? 1 : 0);
        }
    }

    /** Promise 1: "No slots, no flights, no offers": all that goes over them finds nothing. */
    private static void emptyDesk() {
        LandingSlots x = new LandingSlots();
        check.same("ration", x.ration(), 0);
        check.same("trade", x.trade(), 0);
        check.same("compress", x.compress(), 0);
        check.same("gaps", x.gaps(), 0);
        check.same("log", x.log(), 0);
        for (int airline = -1; airline <= 7; airline++) {
            check.same("delay", x.delay(airline), 0);
            check.same("owned", x.owned(airline), 0);
        }
        for (int quarter = 0; quarter < 16; quarter++) {
            check.same("rate 0, as it is", x.rate(quarter, 0), 0);
        }
        check.same("still no slots", x.owned(NONE), 0);
        check.same("the first flight", x.flight(0, 0, 0), 0);
    }

    /** Terms: "16 QUARTERS of 15 MINUTES", the slots "at the minutes 15 q + 15 i / n, rounded down". */
    private static void firstAndLastQuarter() {
        for (int quarter : new int[] {0, 1, 14, 15}) {
            for (int n = 0; n <= 8; n++) {
                LandingSlots x = new LandingSlots();
                check.same("rate", x.rate(quarter, n), 0);
                check.same("slots of quarter " + quarter + " at rate " + n, x.owned(NONE), n);
                for (int offset : OFFSETS[n]) {
                    check.slot("slot", x, 15 * quarter + offset, NONE, NONE);
                }
            }
        }
    }

    private static boolean has(int[] offsets, int offset) {
        for (int one : offsets) {
            if (one == offset) {
                return true;
            }
        }
        return false;
    }

    /** Promise 2: "a frozen slot would be none any more", of every slot that there can be, at every rate. */
    private static void everyFrozenSlotAtEveryRate() {
        for (int quarter : new int[] {0, 8, 15}) {
            for (int n = 1; n <= 8; n++) {
                for (int offset : OFFSETS[n]) {
                    for (int next = 0; next <= 8; next++) {
                        frozenAt(quarter, n, offset, next);
                    }
                }
            }
        }
    }

    private static void frozenAt(int quarter, int n, int offset, int next) {
        LandingSlots x = new LandingSlots();
        int minute = 15 * quarter + offset;
        x.flight(3, minute, minute);
        x.rate(quarter, n);
        x.airborne(0);
        String what = "frozen " + minute + " of rate " + n + " at rate " + next;
        if (has(OFFSETS[next], offset)) {
            check.same(what, x.rate(quarter, next), 0);
            check.same(what + ": slots", x.owned(NONE), next - 1);
        } else {
            check.badState(what, () -> x.rate(quarter, next));
            check.same(what + ": slots", x.owned(NONE), n - 1);
        }
        check.slot(what, x, minute, 3, 0);
    }

    /** Promise 2: a slot whose flight is not airborne may go, at every rate. */
    private static void onlyFrozenSlotsKeepARate() {
        for (int quarter : new int[] {0, 8, 15}) {
            for (int offset : OFFSETS[8]) {
                for (int next = 0; next <= 8; next++) {
                    takenAt(15 * quarter + offset, quarter, next);
                }
            }
        }
    }

    private static void takenAt(int minute, int quarter, int next) {
        LandingSlots x = new LandingSlots();
        x.flight(3, minute, minute);
        x.rate(quarter, 8);
        String what = "taken " + minute + " at rate " + next;
        check.slot(what, x, minute, 3, 0);
        int waiting = minute > 15 * quarter + lastOf(OFFSETS[next]) ? 1 : 0;
        check.same(what, x.rate(quarter, next), waiting);
        check.same(what + ": slots", x.owned(NONE), next - 1 + waiting);
    }

    private static int lastOf(int[] offsets) {
        return offsets.length == 0 ? NONE : offsets[offsets.length - 1];
    }

    /** Promise 2: one frozen slot that would go is enough, be it the first or the last one. */
    private static void oneOfSeveralFrozenSlots() {
        LandingSlots x = new LandingSlots();
        for (int i = 0; i < 4; i++) {
            x.flight(i, 0, 0);
        }
        x.rate(0, 4);
        x.airborne(0);
        x.airborne(2);
        check.slot("frozen", x, 0, 0, 0);
        check.slot("frozen", x, 7, 2, 2);
        check.badState("0 stays, 7 would go", () -> x.rate(0, 5));
        check.badState("0 stays, 7 would go", () -> x.rate(0, 1));
        check.badState("both would go", () -> x.rate(0, 0));
        check.same("both stay, and two wait", x.rate(0, 2), 2);
        check.same("both stay, and nobody waits", x.rate(0, 8), 0);
        check.same("no other quarter has to do with it", x.rate(1, 0), 0);
        check.slot("still frozen", x, 0, 0, 0);
        check.slot("still frozen", x, 7, 2, 2);
    }

    /** Promise 2: "How many flights, neither cancelled nor airborne, are in no slot then": up to all 60. */
    private static void rateAtWhichAllWait() {
        LandingSlots x = new LandingSlots();
        for (int i = 0; i < 60; i++) {
            x.flight(7, 0, 0);
        }
        check.same("no slots", x.rate(15, 0), 60);
        check.same("one slot", x.rate(15, 1), 59);
        x.airborne(0);
        check.same("the airborne one does not wait", x.rate(14, 0), 59);
        x.cancel(59);
        check.same("nor does the cancelled one", x.rate(14, 8), 50);
        for (int quarter = 0; quarter < 7; quarter++) {
            check.same("eight fewer", x.rate(quarter, 8), Math.max(0, 42 - 8 * quarter));
        }
        check.same("nobody is left", x.ration(), 0);
    }

    /** Promise 3: "earliest not from scheduled - 15 (or 0, if that is more) to 300", of each minute. */
    private static void earliestBoundsOfEveryMinute() {
        for (int scheduled = 0; scheduled < 240; scheduled++) {
            LandingSlots x = new LandingSlots();
            int s = scheduled;
            int least = s < 15 ? 0 : s - 15;
            check.same("least earliest of " + s, x.flight(0, s, least), 0);
            check.same("most earliest of " + s, x.flight(0, s, 300), 1);
            check.same("itself", x.flight(0, s, s), 2);
            check.badArgument("one less for " + s, () -> x.flight(0, s, least - 1));
            check.badArgument("one more for " + s, () -> x.flight(0, s, 301));
            check.no("the least is kept for " + s, x.later(0, least));
            check.badArgument("the most is kept for " + s, () -> x.later(1, 299));
        }
    }

    /** Terms: "an airline 0 .. 7". */
    private static void airlinesZeroToSeven() {
        LandingSlots x = new LandingSlots();
        x.rate(0, 8);
        for (int airline = 0; airline < 8; airline++) {
            check.same("flight", x.flight(airline, airline, 0), airline);
        }
        x.ration();
        for (int airline = 0; airline < 8; airline++) {
            check.slot("of each airline one", x, OFFSETS[8][airline], airline, airline);
            check.same("owned", x.owned(airline), 1);
            check.same("delay", x.delay(airline), OFFSETS[8][airline] - airline);
            check.same("offer", x.offer(airline, OFFSETS[8][airline], OFFSETS[8][(airline + 1) % 8]), airline);
        }
        check.same("nobody's", x.owned(NONE), 0);
    }

    /** Promise 3: "there are 60": the 60th is added, and may be named in every call. */
    private static void sixtiethFlight() {
        LandingSlots x = Desks.allSlots();
        for (int i = 0; i < 59; i++) {
            x.flight(0, 0, 0);
        }
        check.badArgument("no flight 59 yet", () -> x.slotOf(59));
        check.same("the last one", x.flight(0, 239, 224), 59);
        check.badState("no more", () -> x.flight(0, 0, 0));
        check.same("in none", x.slotOf(59), NONE);
        check.same("all in", x.ration(), 0);
        check.slot("in", x, 225, 0, 59);
        check.yes("later", x.later(59, 226));
        x.ration();
        check.slot("later", x, 226, 0, 59);
        x.offer(0, 226, 238);
        check.same("traded", x.trade(), 1);
        check.slot("traded", x, 238, 0, 59);
        check.same("its gaps", x.gaps(), 6);
        check.same("moved", x.compress(), 1);
        check.entry("moved", x, 1, LandingSlots.MOVED, 59, 238, 226);
        x.cancel(58);
        x.airborne(59);
        check.badState("airborne", () -> x.cancel(59));
        check.same("frozen", x.rate(15, 8), 0);
        check.slot("frozen", x, 226, 0, 59);
    }

    /** Promise 4: with no flights, or none that is neither cancelled nor airborne, nobody waits. */
    private static void rationOfNobody() {
        LandingSlots x = new LandingSlots();
        x.rate(0, 1);
        check.same("no flights", x.ration(), 0);
        x.flight(0, 0, 0);
        x.flight(0, 0, 0);
        check.same("one of two", x.ration(), 1);
        x.cancel(1);
        check.same("cancelled", x.ration(), 0);
        x.airborne(0);
        check.same("airborne", x.ration(), 0);
        check.slot("airborne", x, 0, 0, 0);
        check.same("cancelled", x.slotOf(1), NONE);
    }

    /** Terms: "A flight CAN USE a slot that is not before its earliest minute." */
    private static void rationAtTheEarliestMinute() {
        int[][] earliestAndSlot = {{0, 0}, {1, 5}, {4, 5}, {5, 5}, {6, 10}, {9, 10}, {10, 10}, {11, NONE}, {300, NONE}};
        for (int[] pair : earliestAndSlot) {
            LandingSlots x = new LandingSlots();
            x.flight(0, 0, pair[0]);
            check.same("earliest " + pair[0], x.rate(0, 3), pair[1] == NONE ? 1 : 0);
            check.same("earliest " + pair[0], x.slotOf(0), pair[1]);
        }
    }

    /** The last slot that there can be is 238; an earliest minute behind it is never reached. */
    private static void rationIntoLastSlot() {
        for (int earliest : new int[] {237, 238, 239, 240, 299, 300}) {
            LandingSlots x = Desks.allSlots();
            x.flight(0, 239, earliest);
            check.same("waits with " + earliest, x.ration(), earliest <= 238 ? 0 : 1);
            check.same("slot with " + earliest, x.slotOf(0), earliest <= 238 ? 238 : NONE);
            check.same("delay with " + earliest, x.delay(0), earliest <= 238 ? -1 : 0);
        }
    }

    /** All 60 flights, of one minute: "of the same minute by number". */
    private static void rationOfFullDesk() {
        LandingSlots x = Desks.sixtyFlights();
        for (int flight = 0; flight < 60; flight++) {
            int minute = 15 * (flight / 8) + OFFSETS[8][flight % 8];
            check.same("slot of " + flight, x.slotOf(flight), minute);
            check.same("owner", x.ownerOf(minute), flight % 8);
        }
        check.same("the first slot that is left", x.flightIn(112), NONE);
        check.same("nobody's", x.owned(NONE), 68);
        check.same("again", x.ration(), 0);
        check.same("as before", x.slotOf(59), 110);
    }

    /** Promise 5: "NONE when it is in none". */
    private static void slotOfIsNoneAtFirst() {
        LandingSlots x = Desks.allSlots();
        x.flight(0, 0, 0);
        check.same("till rationing", x.slotOf(0), NONE);
        check.slot("nobody's till then", x, 0, NONE, NONE);
        x.ration();
        check.same("the least minute", x.slotOf(0), 0);
        x.cancel(0);
        check.same("cancelled", x.slotOf(0), NONE);
    }

    /** Promise 8: "When it cannot use its slot any more": not at the slot's minute, but one behind it. */
    private static void laterAtItsSlot() {
        for (int earliest = 0; earliest <= 7; earliest++) {
            LandingSlots x = new LandingSlots();
            x.rate(0, 3);
            x.flight(4, 0, 0);
            x.flight(4, 0, 0);
            x.ration();
            boolean emptied = earliest > 5;
            check.same("later to " + earliest, x.later(1, earliest) ? 1 : 0, emptied ? 1 : 0);
            check.slot("the owner stays", x, 5, 4, emptied ? NONE : 1);
            check.same("slot then", x.slotOf(1), emptied ? NONE : 5);
            check.same("entries", x.log(), emptied ? 1 : 0);
        }
    }

    /** Promise 8: "less than it was, or more than 300": the same as it was, and 300, are neither. */
    private static void laterToTheLastMinute() {
        LandingSlots x = new LandingSlots();
        x.rate(0, 1);
        x.flight(0, 0, 0);
        x.ration();
        check.no("0 again", x.later(0, 0));
        check.yes("300", x.later(0, 300));
        check.no("300 again", x.later(0, 300));
        check.badArgument("299", () -> x.later(0, 299));
        check.badArgument("301", () -> x.later(0, 301));
        check.slot("emptied once", x, 0, 0, NONE);
        check.same("emptied once", x.log(), 1);
    }

    /** Promise 8: "otherwise false", and nothing is logged. */
    private static void laterOfAFlightInNoSlot() {
        LandingSlots x = new LandingSlots();
        x.flight(0, 0, 0);
        check.no("there are no slots", x.later(0, 1));
        check.no("to the last minute", x.later(0, 300));
        check.same("nothing logged", x.log(), 0);
    }

    /** Promise 9: "When it was in a slot ...: true; otherwise false", and nothing is logged. */
    private static void cancelOfAFlightInNoSlot() {
        LandingSlots x = Desks.busy();
        check.no("emptied", x.cancel(4));
        check.no("can use none", x.cancel(6));
        check.no("not rationed yet", x.cancel(10));
        check.same("nothing logged", x.log(), 6);
        check.slot("the owner of what was emptied stays", x, 20, 2, NONE);
        check.yes("in a slot", x.cancel(0));
        check.entry("left", x, 6, LandingSlots.LEFT, 0, 0, NONE);
        for (int flight : new int[] {0, 4, 6, 10}) {
            check.badState("cancelled", () -> x.cancel(flight));
        }
    }

    /** Promise 11: "or cannot use the other's slot": it can at its earliest minute, and not one before. */
    private static void swapAtTheEarliestMinute() {
        for (int earliest = 4; earliest <= 6; earliest++) {
            swapWithEarliest(earliest, 1, 2);
            swapWithEarliest(earliest, 2, 1);
        }
    }

    /** Flights 1 and 2 of airline 1 in 5 and 10, of which 2 has that earliest minute. */
    private static void swapWithEarliest(int earliest, int flight, int other) {
        LandingSlots x = new LandingSlots();
        x.rate(0, 3);
        x.flight(0, 0, 0);
        x.flight(1, 0, 0);
        x.flight(1, 0, 0);
        x.ration();
        x.later(2, earliest);
        if (earliest <= 5) {
            x.swap(flight, other);
            check.slot("swapped", x, 5, 1, 2);
            check.slot("swapped", x, 10, 1, 1);
            check.entry("swapped", x, 0, LandingSlots.SWAPPED, flight, flight == 1 ? 5 : 10, flight == 1 ? 10 : 5);
        } else {
            check.badState("flight 2 cannot use 5", () -> x.swap(flight, other));
            check.slot("not swapped", x, 5, 1, 1);
            check.slot("not swapped", x, 10, 1, 2);
        }
    }

    /** Promise 12: the slots 0 and 238 are slots as all others are. */
    private static void offerOfFirstAndLastSlot() {
        LandingSlots x = Desks.allSlots();
        x.flight(7, 0, 0);
        x.ration();
        check.same("from the first to the last", x.offer(7, 0, 238), 0);
        check.same("carried out", x.trade(), 1);
        check.slot("in the last", x, 238, 7, 0);
        check.same("from the last to the first", x.offer(7, 238, 0), 1);
        check.same("carried out", x.trade(), 1);
        check.slot("in the first", x, 0, 7, 0);
        check.slot("nobody's", x, 238, NONE, NONE);
    }

    /** Promise 12: "there are 40 offers": the 40th is made, whatever became of the others. */
    private static void fortiethOffer() {
        LandingSlots x = Desks.threeIn();
        for (int i = 0; i < 39; i++) {
            check.same("number", x.offer(0, 0, 5), i);
            check.yes("dropped at once", x.drop(i));
        }
        check.badArgument("no offer 39 yet", () -> x.drop(39));
        check.same("the last one", x.offer(1, 5, 15), 39);
        check.badState("no more", () -> x.offer(0, 0, 5));
        check.same("the last one is carried out", x.trade(), 1);
        check.slot("carried out", x, 15, 1, 1);
        check.badState("still no more", () -> x.offer(0, 0, 5));
        check.same("rationed", x.ration(), 0);
        check.badState("rationing makes no room", () -> x.offer(0, 0, 5));
    }

    /** Promise 13: "whether it was standing", of the first and the last of 40. */
    private static void dropOfFirstAndLast() {
        LandingSlots x = Desks.fortyOffers();
        check.yes("the first", x.drop(0));
        check.no("the first again", x.drop(0));
        check.yes("the last", x.drop(39));
        check.no("the last again", x.drop(39));
        check.yes("none beside them", x.drop(1));
        check.yes("none beside them", x.drop(38));
        check.same("nothing logged", x.log(), 0);
    }
}
