/** Promises 15 and 16: compress, gaps. */
public final class CompressionTest {
    private static final int NONE = LandingSlots.NONE;
    private static final Checks check = new Checks();

    public static void main(String[] args) {
        nothingToDo();
        ownFlightFirst();
        otherAirlineTakesOver();
        slotWithoutOwner();
        movesGoOnFromSlotToSlot();
        firstEmptySlotFirst();
        skipsSlotsWithoutGaps();
        earliestBounds();
        airborneFlightsStay();
        flightsInNoSlotStay();
        gapsAreCounted();
        fullDesk();
        check.finish();
    }

    /** Slots 0, 5, 10, 15, 20, 25 and no flights. */
    private static LandingSlots sixSlots() {
        LandingSlots x = new LandingSlots();
        x.rate(0, 3);
        x.rate(1, 3);
        return x;
    }

    private static void nothingToDo() {
        LandingSlots x = sixSlots();
        check.same("no flights", x.compress(), 0);
        x.flight(0, 0, 0);
        x.flight(1, 1, 0);
        x.ration();
        check.same("no gaps", x.gaps(), 0);
        check.same("no gaps", x.compress(), 0);
        check.same("nothing logged", x.log(), 0);
    }

    private static void ownFlightFirst() {
        LandingSlots x = sixSlots();
        x.flight(0, 0, 0);
        x.flight(1, 1, 0);
        x.flight(0, 2, 0);
        x.flight(0, 3, 0);
        x.ration();
        x.cancel(0);
        check.same("gaps", x.gaps(), 3);
        check.same("two moves", x.compress(), 2);
        check.slot("the airline's own flight in the first slot, though behind another", x, 0, 0, 2);
        check.slot("not moved", x, 5, 1, 1);
        check.slot("the slot left is the airline's and goes to its next", x, 10, 0, 3);
        check.slot("empty, but owned", x, 15, 0, NONE);
        check.same("three entries", x.log(), 3);
        check.entry("left", x, 0, LandingSlots.LEFT, 0, 0, NONE);
        check.entry("first move", x, 1, LandingSlots.MOVED, 2, 10, 0);
        check.entry("second move", x, 2, LandingSlots.MOVED, 3, 15, 10);
        check.same("no gaps left", x.gaps(), 0);
        check.same("owners are as many as before", x.owned(0), 3);
    }

    private static void otherAirlineTakesOver() {
        LandingSlots x = sixSlots();
        x.flight(0, 0, 0);
        x.flight(1, 1, 0);
        x.flight(2, 2, 10);
        x.ration();
        x.cancel(0);
        check.same("one move", x.compress(), 1);
        check.slot("its airline owns it then", x, 0, 1, 1);
        check.slot("the owner gets the slot left", x, 5, 0, NONE);
        check.slot("cannot be earlier", x, 10, 2, 2);
        check.entry("move", x, 1, LandingSlots.MOVED, 1, 5, 0);
    }

    private static void slotWithoutOwner() {
        LandingSlots x = sixSlots();
        x.flight(0, 0, 0);
        x.flight(1, 1, 0);
        x.ration();
        x.offer(0, 0, 20);
        x.trade();
        check.slot("without owner", x, 0, NONE, NONE);
        check.same("flight 1 with 0; flight 0 with 0, 10, 15", x.gaps(), 4);
        check.same("two moves", x.compress(), 2);
        check.slot("its airline owns it then", x, 0, 1, 1);
        check.slot("the next", x, 5, 0, 0);
        check.slot("no owner", x, 20, NONE, NONE);
        check.same("owned", x.owned(NONE), 4);
    }

    private static void movesGoOnFromSlotToSlot() {
        LandingSlots x = sixSlots();
        for (int i = 0; i < 6; i++) {
            x.flight(i, i, 0);
        }
        x.ration();
        x.cancel(0);
        check.same("five moves", x.compress(), 5);
        for (int i = 1; i < 6; i++) {
            check.slot("one forward", x, 5 * (i - 1), i, i);
        }
        check.slot("the owner of the first has the last then", x, 25, 0, NONE);
        check.same("six entries", x.log(), 6);
        for (int i = 1; i < 6; i++) {
            check.entry("in order", x, i, LandingSlots.MOVED, i, 5 * i, 5 * (i - 1));
        }
    }

    private static void firstEmptySlotFirst() {
        LandingSlots x = sixSlots();
        for (int i = 0; i < 4; i++) {
            x.flight(i, i, 0);
        }
        x.ration();
        x.cancel(1);
        x.cancel(0);
        check.same("gaps", x.gaps(), 4);
        check.same("two moves", x.compress(), 2);
        check.slot("the first empty slot is filled first", x, 0, 2, 2);
        check.slot("then the next", x, 5, 3, 3);
        check.slot("the owner of 0", x, 10, 0, NONE);
        check.slot("the owner of 5", x, 15, 1, NONE);
    }

    private static void skipsSlotsWithoutGaps() {
        LandingSlots x = sixSlots();
        x.flight(0, 0, 0);
        x.flight(1, 1, 0);
        x.flight(2, 12, 3);
        x.ration();
        x.cancel(0);
        x.cancel(1);
        check.same("only with 5", x.gaps(), 1);
        check.same("one move", x.compress(), 1);
        check.slot("nobody can use it", x, 0, 0, NONE);
        check.slot("moved", x, 5, 2, 2);
        check.slot("left", x, 10, 1, NONE);
    }

    private static void earliestBounds() {
        LandingSlots x = sixSlots();
        x.flight(0, 0, 0);
        x.flight(1, 1, 0);
        x.flight(2, 2, 0);
        x.ration();
        x.later(1, 1);
        x.later(2, 5);
        x.cancel(0);
        check.same("0 is before both", x.gaps(), 0);
        x.cancel(1);
        check.same("5 is not before 5", x.gaps(), 1);
        check.same("moved", x.compress(), 1);
        check.same("moved", x.slotOf(2), 5);
    }

    private static void airborneFlightsStay() {
        LandingSlots x = sixSlots();
        x.flight(0, 0, 0);
        x.flight(0, 1, 0);
        x.flight(1, 2, 0);
        x.ration();
        x.airborne(1);
        x.cancel(0);
        check.same("only flight 2", x.gaps(), 1);
        check.same("one move", x.compress(), 1);
        check.slot("over the frozen one", x, 0, 1, 2);
        check.slot("frozen", x, 5, 0, 1);
        check.slot("left", x, 10, 0, NONE);
    }

    private static void flightsInNoSlotStay() {
        LandingSlots x = sixSlots();
        int waiting = x.flight(0, 0, 0);
        check.same("no gaps", x.gaps(), 0);
        check.same("no moves", x.compress(), 0);
        check.same("waits for rationing", x.slotOf(waiting), NONE);
    }

    private static void gapsAreCounted() {
        LandingSlots x = sixSlots();
        for (int i = 0; i < 5; i++) {
            x.flight(i, i, 0);
        }
        x.ration();
        x.cancel(0);
        check.same("four flights behind 0", x.gaps(), 4);
        x.cancel(2);
        check.same("three behind 0, two behind 10", x.gaps(), 5);
        x.later(4, 10);
        check.same("flight 4 not before 10", x.gaps(), 4);
        x.airborne(1);
        check.same("flight 1 is airborne", x.gaps(), 3);
        check.same("gaps changes nothing", x.gaps(), 3);
        check.same("logged", x.log(), 2);
    }

    /** All slots there can be, and all flights. */
    private static void fullDesk() {
        LandingSlots x = new LandingSlots();
        for (int quarter = 0; quarter < 16; quarter++) {
            x.rate(quarter, 8);
        }
        check.same("slots", x.owned(NONE), 128);
        for (int i = 0; i < 60; i++) {
            x.flight(i % 8, i, Math.max(0, i - 15));
        }
        check.same("all in", x.ration(), 0);
        check.same("the last flight", x.slotOf(59), 110);
        check.same("no gaps", x.gaps(), 0);
        x.cancel(0);
        check.same("those that can use 0", x.gaps(), 15);
        int before = x.delay(NONE);
        check.yes("moved", x.compress() > 0);
        check.yes("earlier in all", x.delay(NONE) < before);
        check.same("no gaps left", x.gaps(), 0);
        check.same("owners", x.owned(NONE), 68);
    }
}
