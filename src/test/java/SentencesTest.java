import java.util.function.Consumer;

/**
 * Sentences of the document that the other tests do not hold by themselves, each quoted at its test:
 * that objects share nothing, what rationing is ordered by, how long an offer stands, what trading
 * sees of its own exchanges, and which flight compression takes.
 */
public final class SentencesTest {
    private static final int NONE = LandingSlots.NONE;
    private static final Checks check = new Checks();

    public static void main(String[] args) {
        objectsShareNothing();
        sameMinuteByNumber();
        laterLeavesTheSchedule();
        offersStandWhateverIsDone();
        offersNameSlotsNotFlights();
        offersThatBecomeGood();
        partnersThatBecomeGood();
        ownersFirstSlotNotFirstNumber();
        ownersFlightsThatCannotArePassed();
        check.finish();
    }

    /** Promise 1: "No slots, no flights, no offers", whatever other objects have. */
    private static void objectsShareNothing() {
        new Refusals(check, "busy", Desks::busy).onlyLooks("calls of another object", x -> useAnother());
        // Once more by itself, since onlyLooks passes over what a call throws.
        useAnother();
    }

    private static void useAnother() {
        LandingSlots other = Desks.allSlots();
        for (int i = 0; i < 60; i++) {
            other.flight(7 - i % 8, 159 - i, 150 - i);
        }
        other.ration();
        for (int offer = 0; offer < 40; offer++) {
            int give = other.slotOf(offer);
            other.offer(other.ownerOf(give), give, 0);
            other.drop(offer);
        }
        for (int flight = 0; flight < 30; flight += 2) {
            other.cancel(flight);
            other.airborne(flight + 1);
        }
        other.compress();
    }

    /** Rationing: "of the same minute by number", be the earliest minute or the airline a lesser one. */
    private static void sameMinuteByNumber() {
        LandingSlots x = new LandingSlots();
        x.rate(0, 3);
        x.flight(6, 9, 5);
        x.flight(3, 9, 1);
        x.flight(0, 9, 4);
        check.same("one waits", x.ration(), 1);
        check.slot("the first number", x, 5, 6, 0);
        check.slot("the second number", x, 10, 3, 1);
        check.slot("before all of them", x, 0, NONE, NONE);
        check.same("the third number", x.slotOf(2), NONE);
    }

    /** Promise 8: "A flight gets a later earliest minute": it is scheduled as before. */
    private static void laterLeavesTheSchedule() {
        LandingSlots x = new LandingSlots();
        x.rate(0, 3);
        x.flight(0, 0, 0);
        x.flight(1, 3, 3);
        x.ration();
        check.yes("emptied", x.later(0, 5));
        x.ration();
        check.slot("still the first by schedule", x, 5, 0, 0);
        check.slot("still the second", x, 10, 1, 1);
        check.same("its delay counts from the schedule", x.delay(0), 5);
    }

    /** Offers: "an offer STANDS until it is dropped or carried out." */
    private static void offersStandWhateverIsDone() {
        standAfter("rate", x -> x.rate(2, 8));
        standAfter("rate that takes give and want away", x -> { x.rate(0, 0); x.rate(1, 0); });
        standAfter("flight", x -> x.flight(0, 0, 0));
        standAfter("ration", LandingSlots::ration);
        standAfter("later of the flight in give", x -> x.later(0, 3));
        standAfter("cancel of the flight in give", x -> x.cancel(0));
        standAfter("airborne flight in give", x -> x.airborne(0));
        standAfter("airborne flight in want", x -> x.airborne(2));
        standAfter("swap", x -> x.swap(0, 1));
        standAfter("trading that finds no partner", LandingSlots::trade);
        standAfter("compression from want", x -> { x.cancel(0); x.cancel(1); x.compress(); });
        standAfter("another offer like it", x -> x.offer(0, 0, 10));
        standAfter("another offer of the same slot, carried out", x -> { x.offer(0, 0, 20); x.trade(); });
        standAfter("another offer, dropped", x -> { x.offer(0, 0, 20); x.drop(3); });
    }

    /** Offers 0 and 1 give 0 and 5 for 10, offer 2 gives 10 for 15, which airline 2 owns: none has a partner. */
    private static void standAfter(String what, Consumer<LandingSlots> deed) {
        LandingSlots x = Desks.logOf(0);
        x.flight(2, 3, 0);
        x.ration();
        x.offer(0, 0, 10);
        x.offer(0, 5, 10);
        x.offer(1, 10, 15);
        deed.accept(x);
        for (int offer = 0; offer < 3; offer++) {
            check.yes("offer " + offer + " stands after " + what, x.drop(offer));
        }
    }

    /** Offers: "an airline offers a slot that it owns": the slot stays offered when its flight changes. */
    private static void offersNameSlotsNotFlights() {
        LandingSlots x = Desks.logOf(0);
        x.offer(0, 0, 15);
        x.swap(0, 1);
        check.same("carried out", x.trade(), 1);
        check.slot("given, with the flight then in it", x, 15, 0, 1);
        check.slot("not offered, though the flight was in 0 then", x, 5, 0, 0);
        check.entry("the flight in its give before", x, 1, LandingSlots.TRADED, 1, 0, 15);
    }

    /** Slots 0, 5, 10 of airlines 0, 1, 2, and 15, which airline 0 owned when it made these offers, of nobody. */
    private static LandingSlots offersOfALostSlot() {
        LandingSlots x = Desks.threeIn();
        int last = x.flight(0, 3, 0);
        x.ration();
        x.offer(0, 0, 15);
        x.offer(1, 5, 15);
        x.offer(0, 15, 5);
        x.offer(0, 15, 20);
        x.cancel(last);
        x.ration();
        check.slot("nobody's again", x, 15, NONE, NONE);
        return x;
    }

    /** Trading: "An offer that is good then": by what was carried out just before it. */
    private static void offersThatBecomeGood() {
        LandingSlots x = offersOfALostSlot();
        x.drop(1);
        x.drop(2);
        check.same("0 for 15, then 15 for 20", x.trade(), 2);
        check.slot("given", x, 0, NONE, NONE);
        check.slot("got and given", x, 15, NONE, NONE);
        check.slot("got", x, 20, 0, 0);
        check.entry("first", x, 0, LandingSlots.TRADED, 0, 0, 15);
        check.entry("then", x, 1, LandingSlots.TRADED, 0, 15, 20);
    }

    /** Trading: the partner "stands, is good": when it is looked for, not when trading began. */
    private static void partnersThatBecomeGood() {
        LandingSlots x = offersOfALostSlot();
        check.same("0 for 15, then 5 with 15", x.trade(), 3);
        check.slot("given", x, 0, NONE, NONE);
        check.slot("exchanged", x, 5, 0, 0);
        check.slot("exchanged", x, 15, 1, 1);
        check.entry("first", x, 0, LandingSlots.TRADED, 0, 0, 15);
        check.entry("then", x, 1, LandingSlots.TRADED, 1, 5, 15);
        check.entry("with it", x, 2, LandingSlots.TRADED, 0, 15, 5);
        check.yes("15 is another's then", x.drop(3));
    }

    /** Six slots, 0 .. 25, and flights of these airlines in them, the last number in the first slot. */
    private static LandingSlots lastNumberFirst(int... airlines) {
        LandingSlots x = new LandingSlots();
        x.rate(0, 3);
        x.rate(1, 3);
        for (int i = airlines.length - 1; i >= 0; i--) {
            x.flight(airlines[i], i, 0);
        }
        x.ration();
        return x;
    }

    /** Compression: "of the airline that owns s, the one of these in the first slot". */
    private static void ownersFirstSlotNotFirstNumber() {
        LandingSlots x = lastNumberFirst(0, 1, 0, 0);
        check.slot("the last number", x, 0, 0, 3);
        x.cancel(3);
        check.same("two moves", x.compress(), 2);
        check.slot("number 1, which was in 10, not number 0, which was in 15", x, 0, 0, 1);
        check.slot("another airline's", x, 5, 1, 2);
        check.slot("number 0", x, 10, 0, 0);
        check.slot("left", x, 15, 0, NONE);
    }

    /** Compression: "of the flights that have a gap with it, if there are some of the airline that owns s". */
    private static void ownersFlightsThatCannotArePassed() {
        LandingSlots x = lastNumberFirst(0, 1, 0, 0, 0);
        check.slot("the last number", x, 0, 0, 4);
        x.later(2, 1);
        x.airborne(1);
        x.cancel(4);
        check.same("another airline's and the owner's last", x.gaps(), 2);
        check.same("one move", x.compress(), 1);
        check.slot("the only one of the owner's that can use it", x, 0, 0, 0);
        check.slot("another airline's", x, 5, 1, 3);
        check.slot("cannot use it", x, 10, 0, 2);
        check.slot("airborne", x, 15, 0, 1);
        check.slot("left", x, 20, 0, NONE);
    }
}
