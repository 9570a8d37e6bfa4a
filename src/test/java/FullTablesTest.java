/**
 * Promises 14 to 20 at their edges: trading and compression with nothing to do and with all there can
 * be, the sums of the empty and the full desk, the full log, and an object's 512 calls. What is
 * refused is in RefusedCallsTest. No object here gets more than 512 calls.
 */
public final class FullTablesTest {
    private static final int NONE = LandingSlots.NONE;
    private static final int[] OFFSETS = {0, 1, 3, 5, 7, 9, 11, 13};
    private static final Checks check = new Checks();

    public static void main(String[] args) {
        tradeOfAllOffersInPairs();
        tradeOfAllOffersAlone();
        tradeAtTheEarliestMinute();
        tradeWithGreaterNumbersAlone();
        tradeOfNobodysSlots();
        compressTheFullDesk();
        compressFromTheLastToTheFirst();
        compressAtTheEarliestMinute();
        compressWhenTheOwnerCannot();
        gapsOfTheFullDesk();
        gapsAreWithLaterSlotsAlone();
        delayAtItsEdges();
        delayOfSixty();
        ownedOfTheFullDesk();
        lastEntryOfEachKind();
        movesOverTheEndOfTheLog();
        tradesOverTheEndOfTheLog();
        partsOfFirstAndLastEntry();
        fullLogIsEmptiedByRationing();
        fiveHundredAndTwelveCalls();
        check.finish();
    }

    /** The minute of the i-th of all 128 slots. */
    private static int slot(int i) {
        return 15 * (i / 8) + OFFSETS[i % 8];
    }

    /** Forty flights of airlines 0 and 1 in turn, in the first forty of all slots. */
    private static LandingSlots fortyIn() {
        LandingSlots x = Desks.allSlots();
        for (int i = 0; i < 40; i++) {
            x.flight(i % 2, 0, 0);
        }
        x.ration();
        return x;
    }

    /** Promise 14: "two by one exchange between airlines": at most all 40. */
    private static void tradeOfAllOffersInPairs() {
        LandingSlots x = fortyIn();
        for (int i = 0; i < 40; i++) {
            x.offer(i % 2, slot(i), slot(i % 2 == 0 ? i + 1 : i - 1));
        }
        check.same("all", x.trade(), 40);
        check.same("all logged", x.log(), 40);
        for (int i = 0; i < 40; i++) {
            int next = i % 2 == 0 ? i + 1 : i - 1;
            check.slot("exchanged", x, slot(next), i % 2, i);
            check.entry("by pairs", x, i, LandingSlots.TRADED, i, slot(i), slot(next));
        }
        check.same("none stands any more", x.trade(), 0);
    }

    /** Promise 14: forty slots for forty that have no owner. */
    private static void tradeOfAllOffersAlone() {
        LandingSlots x = fortyIn();
        for (int i = 0; i < 40; i++) {
            x.offer(i % 2, slot(i), slot(127 - i));
        }
        check.same("all", x.trade(), 40);
        check.same("all logged", x.log(), 40);
        for (int i = 0; i < 40; i++) {
            check.slot("given", x, slot(i), NONE, NONE);
            check.slot("got", x, slot(127 - i), i % 2, i);
        }
        check.entry("the last", x, 39, LandingSlots.TRADED, 39, slot(39), slot(88));
        check.same("none stands any more", x.trade(), 0);
    }

    /** Terms: "the flight in give, if there is one, can use want": at its earliest minute, not one before. */
    private static void tradeAtTheEarliestMinute() {
        for (int earliest = 4; earliest <= 6; earliest++) {
            boolean can = earliest <= 5;
            LandingSlots x = Desks.threeIn();
            x.later(2, earliest);
            x.offer(2, 10, 5);
            x.offer(1, 5, 10);
            check.same("the first offer, earliest " + earliest, x.trade(), can ? 2 : 0);
            check.same("where it is", x.slotOf(2), can ? 5 : 10);
            LandingSlots y = Desks.threeIn();
            y.later(2, earliest);
            y.offer(1, 5, 10);
            y.offer(2, 10, 5);
            check.same("the second offer, earliest " + earliest, y.trade(), can ? 2 : 0);
            check.same("where it is", y.slotOf(2), can ? 5 : 10);
        }
        for (int earliest = 9; earliest <= 11; earliest++) {
            LandingSlots x = Desks.threeIn();
            x.offer(2, 10, 15);
            check.same("10 is nobody's then", x.trade(), 1);
            x.later(2, earliest);
            x.offer(2, 15, 10);
            check.same("nobody's slot, earliest " + earliest, x.trade(), earliest <= 10 ? 1 : 0);
            check.same("where it is", x.slotOf(2), earliest <= 10 ? 10 : 15);
        }
    }

    /** Terms: "the first offer of another airline, with a greater number": a lesser one waits for the next time. */
    private static void tradeWithGreaterNumbersAlone() {
        LandingSlots x = Desks.threeIn();
        x.offer(0, 0, 10);
        x.offer(0, 0, 5);
        x.offer(1, 5, 0);
        check.same("0 and 5 exchanged", x.trade(), 2);
        x.offer(1, 0, 5);
        x.offer(0, 5, 0);
        x.offer(2, 10, 0);
        check.same("exchanged back, which makes offer 0 good again, but too late", x.trade(), 2);
        check.slot("offer 5 found nobody behind it", x, 10, 2, 2);
        check.same("offers 0 and 5", x.trade(), 2);
        check.slot("exchanged", x, 10, 0, 0);
        check.slot("exchanged", x, 0, 2, 2);
    }

    /** Terms: "whose want has no owner": what the offer before gave up in the same trading has none. */
    private static void tradeOfNobodysSlots() {
        LandingSlots x = Desks.threeIn();
        x.offer(0, 0, 15);
        x.offer(1, 5, 0);
        x.offer(2, 10, 5);
        check.same("each into what the one before left", x.trade(), 3);
        check.slot("then", x, 0, 1, 1);
        check.slot("then", x, 5, 2, 2);
        check.slot("then", x, 10, NONE, NONE);
        check.slot("then", x, 15, 0, 0);
        check.same("nobody's", x.owned(NONE), 3);
    }

    /** Promise 15: sixty flights of which the first is cancelled: the other 59 move. */
    private static void compressTheFullDesk() {
        LandingSlots x = new LandingSlots();
        for (int quarter = 0; quarter < 8; quarter++) {
            x.rate(quarter, 8);
        }
        for (int i = 0; i < 60; i++) {
            x.flight(i == 0 ? 0 : 1, 0, 0);
        }
        x.ration();
        x.cancel(0);
        check.same("all that are left", x.compress(), 59);
        for (int i = 1; i < 60; i++) {
            check.slot("one forward", x, slot(i - 1), 1, i);
        }
        check.slot("the owner of the first slot has the last then", x, slot(59), 0, NONE);
        check.same("entries", x.log(), 60);
        check.entry("the first move", x, 1, LandingSlots.MOVED, 1, 1, 0);
        check.entry("the last move", x, 59, LandingSlots.MOVED, 59, slot(59), slot(58));
        check.same("no gaps any more", x.gaps(), 0);
        check.same("nothing to do", x.compress(), 0);
    }

    /** Promise 15: from 238 to 0, the latest and the first slot that there can be. */
    private static void compressFromTheLastToTheFirst() {
        LandingSlots x = Desks.allSlots();
        x.flight(7, 0, 0);
        x.ration();
        x.offer(7, 0, 238);
        x.trade();
        check.same("a gap with each slot before", x.gaps(), 127);
        check.same("one", x.compress(), 1);
        check.slot("moved", x, 0, 7, 0);
        check.slot("nobody's", x, 238, NONE, NONE);
        check.entry("moved", x, 1, LandingSlots.MOVED, 0, 238, 0);
        check.same("the same slots are nobody's", x.owned(NONE), 127);
    }

    /** Terms: a gap's flight "can use it": at its earliest minute, and not one before. */
    private static void compressAtTheEarliestMinute() {
        for (int earliest = 4; earliest <= 6; earliest++) {
            int moved = earliest <= 5 ? 1 : 0;
            LandingSlots x = Desks.threeIn();
            x.later(2, earliest);
            x.cancel(1);
            check.same("gaps with " + earliest, x.gaps(), moved);
            check.same("moved with " + earliest, x.compress(), moved);
            check.same("slot with " + earliest, x.slotOf(2), moved == 1 ? 5 : 10);
            check.same("the owner of what is left", x.ownerOf(10), moved == 1 ? 1 : 2);
            check.same("nothing left to do", x.compress(), 0);
        }
    }

    /** Terms: "if there are some of the airline that owns s ..., otherwise that of all in the first slot". */
    private static void compressWhenTheOwnerCannot() {
        LandingSlots x = new LandingSlots();
        x.rate(0, 5);
        x.flight(0, 0, 0);
        x.flight(0, 1, 1);
        x.flight(0, 2, 0);
        x.flight(1, 3, 0);
        x.flight(2, 4, 0);
        x.ration();
        x.cancel(0);
        x.airborne(2);
        check.same("flights 3 and 4 alone: 1 is too late, 2 is airborne", x.gaps(), 2);
        check.same("flight 3, then 4", x.compress(), 2);
        check.slot("the first of all", x, 0, 1, 3);
        check.slot("not before its earliest minute", x, 3, 0, 1);
        check.slot("airborne", x, 6, 0, 2);
        check.slot("the next", x, 9, 2, 4);
        check.slot("handed on to the end", x, 12, 0, NONE);
        check.entry("the first move", x, 1, LandingSlots.MOVED, 3, 9, 0);
        check.entry("the second move", x, 2, LandingSlots.MOVED, 4, 12, 9);
    }

    /** Promise 16: thirty empty slots, and thirty flights behind all of them. */
    private static void gapsOfTheFullDesk() {
        LandingSlots x = Desks.sixtyFlights();
        check.same("none", x.gaps(), 0);
        for (int i = 0; i < 30; i++) {
            x.cancel(i);
        }
        check.same("each with each", x.gaps(), 900);
        x.airborne(59);
        check.same("the airborne one has none", x.gaps(), 870);
        check.same("29 moves and what they open", x.compress(), 29);
        check.same("none", x.gaps(), 0);
    }

    /** Terms: "a flight in a later one". */
    private static void gapsAreWithLaterSlotsAlone() {
        LandingSlots x = Desks.threeIn();
        check.same("the empty ones are all behind", x.gaps(), 0);
        x.cancel(2);
        check.same("still behind", x.gaps(), 0);
        x.cancel(0);
        check.same("0 is before flight 1", x.gaps(), 1);
        x.cancel(1);
        check.same("no flights", x.gaps(), 0);
        check.same("nothing to move", x.compress(), 0);
    }

    /** Terms: a delay "which may be below 0", by 15 at most, and 238 at most above it. */
    private static void delayAtItsEdges() {
        LandingSlots x = Desks.allSlots();
        x.flight(3, 15, 0);
        x.ration();
        check.same("fifteen early", x.delay(3), -15);
        check.same("of all", x.delay(NONE), -15);
        check.same("of another", x.delay(4), 0);
        LandingSlots y = Desks.allSlots();
        y.flight(0, 0, 238);
        y.flight(7, 238, 223);
        y.ration();
        check.same("as late as can be", y.delay(0), 238);
        check.same("fifteen early", y.delay(7), -15);
        check.same("of all", y.delay(NONE), 223);
        y.later(0, 239);
        check.same("in no slot", y.delay(0), 0);
        check.same("of all in slots", y.delay(NONE), -15);
    }

    /** Promise 17: sixty flights as late as they can all be. */
    private static void delayOfSixty() {
        LandingSlots x = Desks.allSlots();
        int due = 0;
        for (int i = 0; i < 60; i++) {
            x.flight(i % 8, 0, slot(68));
            due += slot(68 + i);
        }
        check.same("all in", x.ration(), 0);
        check.same("the last one", x.slotOf(59), 238);
        check.same("of all", x.delay(NONE), due);
        int sum = 0;
        for (int airline = 0; airline < 8; airline++) {
            sum += x.delay(airline);
        }
        check.same("of each", sum, due);
    }

    /** Promise 18: "with -1 how many have no owner": none, 128, and what sixty flights leave. */
    private static void ownedOfTheFullDesk() {
        LandingSlots x = Desks.allSlots();
        check.same("all of them", x.owned(NONE), 128);
        for (int i = 0; i < 60; i++) {
            x.flight(7, 0, 0);
        }
        check.same("not before rationing", x.owned(7), 0);
        x.ration();
        check.same("sixty", x.owned(7), 60);
        check.same("the rest", x.owned(NONE), 68);
        for (int i = 0; i < 60; i++) {
            x.cancel(i);
        }
        check.same("cancelled flights leave their slots to the owner", x.owned(7), 60);
        x.ration();
        check.same("till rationing", x.owned(7), 0);
        for (int quarter = 0; quarter < 16; quarter++) {
            x.rate(quarter, 0);
        }
        check.same("no slots", x.owned(NONE), 0);
    }

    private interface Deed {
        void on(LandingSlots x);
    }

    /** Terms: "It has room for 200; of more the first 200 are kept": each kind as the 200th, and as the 201st. */
    private static void lastEntryOfEachKind() {
        lastEntry("swap", x -> x.swap(1, 0), LandingSlots.SWAPPED, 1, 0, 5);
        lastEntry("trade", x -> { x.offer(1, 10, 25); x.trade(); }, LandingSlots.TRADED, 2, 10, 25);
        lastEntry("later", x -> x.later(2, 11), LandingSlots.EMPTIED, 2, 10, NONE);
        lastEntry("cancel", x -> x.cancel(2), LandingSlots.LEFT, 2, 10, NONE);
        LandingSlots x = Desks.logOf(197);
        x.offer(1, 10, 25);
        x.trade();
        check.same("flight 2 back to 10", x.compress(), 1);
        check.same("199", x.log(), 199);
        x.offer(1, 10, 20);
        x.trade();
        check.same("200", x.log(), 200);
        check.same("moved all the same", x.compress(), 1);
        check.slot("moved", x, 10, 1, 2);
        check.same("not kept", x.log(), 200);
        check.entry("the last", x, 199, LandingSlots.TRADED, 2, 10, 20);
        check.entry("the last move", x, 198, LandingSlots.MOVED, 2, 25, 10);
    }

    /** Done after 199 entries, and after 200. */
    private static void lastEntry(String what, Deed deed, int kind, int flight, int from, int to) {
        LandingSlots x = Desks.logOf(199);
        deed.on(x);
        check.same(what + " is the 200th", x.log(), 200);
        check.entry(what, x, 199, kind, flight, from, to);
        LandingSlots y = Desks.logOf(200);
        int slotBefore = y.slotOf(flight);
        deed.on(y);
        check.no(what + " is done all the same", y.slotOf(flight) == slotBefore);
        check.same(what + " is not kept", y.log(), 200);
        check.entry("the 200th", y, 199, LandingSlots.SWAPPED, 0, 5, 0);
        check.entry("the first", y, 0, LandingSlots.SWAPPED, 0, 0, 5);
        check.refused("no 201st", IndexOutOfBoundsException.class, () -> y.entry(200, 0));
    }

    /** Promise 15: moves of one compression, of which the log keeps the first ones. */
    private static void movesOverTheEndOfTheLog() {
        LandingSlots x = Desks.logOf(198);
        x.cancel(0);
        check.same("199", x.log(), 199);
        check.same("flights 1 and 2 move", x.compress(), 2);
        check.slot("moved", x, 0, 0, 1);
        check.slot("moved", x, 5, 1, 2);
        check.slot("left", x, 10, 0, NONE);
        check.same("200", x.log(), 200);
        check.entry("the first move is kept", x, 199, LandingSlots.MOVED, 1, 5, 0);
    }

    /** Promise 14: of two offers carried out by one exchange the log may keep the first one alone. */
    private static void tradesOverTheEndOfTheLog() {
        LandingSlots x = Desks.logOf(199);
        x.offer(1, 10, 0);
        x.offer(0, 0, 10);
        check.same("two", x.trade(), 2);
        check.same("200", x.log(), 200);
        check.entry("the first offer is kept", x, 199, LandingSlots.TRADED, 2, 10, 0);
        check.slot("exchanged", x, 0, 1, 2);
        check.slot("exchanged", x, 10, 0, 1);
        check.no("neither stands", x.drop(0));
        check.no("neither stands", x.drop(1));
    }

    /** Promise 20: what = 0, 1, 2, 3 of the first and the last entry. */
    private static void partsOfFirstAndLastEntry() {
        LandingSlots x = Desks.logOf(1);
        check.same("one entry", x.log(), 1);
        check.entry("the only one", x, 0, LandingSlots.SWAPPED, 0, 0, 5);
        check.refused("no second", IndexOutOfBoundsException.class, () -> x.entry(1, 0));
        LandingSlots y = Desks.logOf(200);
        check.same("two hundred", y.log(), 200);
        check.entry("the first", y, 0, LandingSlots.SWAPPED, 0, 0, 5);
        check.entry("the last", y, 199, LandingSlots.SWAPPED, 0, 5, 0);
        check.refused("no more", IndexOutOfBoundsException.class, () -> y.entry(200, 0));
    }

    /** Terms: "the log becomes empty", by ration and by rate, and begins anew. */
    private static void fullLogIsEmptiedByRationing() {
        LandingSlots x = Desks.logOf(200);
        x.ration();
        check.same("ration", x.log(), 0);
        check.refused("nothing kept", IndexOutOfBoundsException.class, () -> x.entry(0, 0));
        x.cancel(2);
        check.entry("anew", x, 0, LandingSlots.LEFT, 2, 10, NONE);
        LandingSlots y = Desks.logOf(200);
        y.rate(0, 3);
        check.same("rate, as it is", y.log(), 0);
        check.refused("nothing kept", IndexOutOfBoundsException.class, () -> y.entry(199, 0));
    }

    /** "An object is used for at most 512 calls": all tables full, and the 512th call is still answered. */
    private static void fiveHundredAndTwelveCalls() {
        LandingSlots x = Desks.sixtyFlights();
        int calls = 77;
        for (int i = 0; i < 40; i++) {
            check.same("offer", x.offer(i % 8, slot(i), slot(127 - i)), i);
            calls++;
        }
        check.same("all carried out", x.trade(), 40);
        calls++;
        check.same("the flights in the first places again", x.compress(), 60);
        calls++;
        for (; calls < 508; calls++) {
            // Flights 51 and 59 are of one airline, and both can use every slot.
            x.swap(51, 59);
        }
        check.same("the 509th call", x.log(), 200);
        check.same("the 510th call", x.entry(199, 0), LandingSlots.SWAPPED);
        check.badState("the 511th call", () -> x.offer(0, 0, 1));
        check.same("the 512th call", x.ration(), 0);
    }
}
