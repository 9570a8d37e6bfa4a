/** Promises 8 to 11: later, cancel, airborne, swap. */
public final class FlightChangesTest {
    private static final int NONE = LandingSlots.NONE;
    private static final Checks check = new Checks();

    public static void main(String[] args) {
        laterEmpties();
        laterKeeps();
        laterRefused();
        cancelLeaves();
        cancelRefused();
        airborneFreezes();
        airborneRefused();
        swapChangesPlaces();
        swapRefusedArguments();
        swapRefusedStates();
        check.finish();
    }

    /** Slots 0, 5, 10, 15, 20, 25; flights 0 and 1 of airline 0, 2 and 3 of airline 1, in 0, 5, 10, 15. */
    private static LandingSlots fourIn() {
        LandingSlots x = new LandingSlots();
        x.rate(0, 3);
        x.rate(1, 3);
        x.flight(0, 0, 0);
        x.flight(0, 1, 1);
        x.flight(1, 2, 2);
        x.flight(1, 3, 3);
        x.ration();
        return x;
    }

    private static void laterEmpties() {
        LandingSlots x = fourIn();
        check.yes("one minute behind its slot", x.later(1, 6));
        check.same("in no slot", x.slotOf(1), NONE);
        check.slot("the owner stays", x, 5, 0, NONE);
        check.same("logged", x.log(), 1);
        check.entry("later", x, 0, LandingSlots.EMPTIED, 1, 5, NONE);
        check.no("in no slot now", x.later(1, 7));
        check.same("not logged again", x.log(), 1);
        x.ration();
        check.same("the later minute is kept", x.slotOf(1), 10);
    }

    private static void laterKeeps() {
        LandingSlots x = fourIn();
        check.no("as it was", x.later(1, 1));
        check.no("its slot's own minute", x.later(1, 5));
        check.slot("still there", x, 5, 0, 1);
        check.same("nothing logged", x.log(), 0);
        check.badArgument("the minute was kept", () -> x.later(1, 4));
        int waiting = x.flight(0, 0, 0);
        check.no("in no slot", x.later(waiting, 300));
        check.same("no slot can be used", x.ration(), 1);
    }

    private static void laterRefused() {
        LandingSlots x = fourIn();
        check.badArgument("no such flight", () -> x.later(4, 100));
        check.badArgument("no such flight", () -> x.later(-1, 100));
        check.badArgument("less than it was", () -> x.later(1, 0));
        check.badArgument("more than 300", () -> x.later(1, 301));
        check.badArgument("far less", () -> x.later(1, Integer.MIN_VALUE));
        check.slot("nothing changed", x, 5, 0, 1);
        check.yes("300 is fine", x.later(1, 300));
        x.cancel(2);
        x.airborne(3);
        check.badState("cancelled", () -> x.later(2, 50));
        check.badState("airborne", () -> x.later(3, 50));
        check.badArgument("argument before state", () -> x.later(2, 1));
        check.badArgument("argument before state", () -> x.later(3, 301));
        check.slot("nothing changed", x, 15, 1, 3);
    }

    private static void cancelLeaves() {
        LandingSlots x = fourIn();
        check.yes("was in a slot", x.cancel(2));
        check.same("in no slot", x.slotOf(2), NONE);
        check.slot("the owner stays", x, 10, 1, NONE);
        check.same("logged", x.log(), 1);
        check.entry("cancel", x, 0, LandingSlots.LEFT, 2, 10, NONE);
        int waiting = x.flight(0, 0, 0);
        check.no("was in none", x.cancel(waiting));
        check.same("not logged", x.log(), 1);
        x.ration();
        check.same("cancelled flights get no slot", x.slotOf(2), NONE);
        check.same("cancelled flights get no slot", x.slotOf(waiting), NONE);
    }

    private static void cancelRefused() {
        LandingSlots x = fourIn();
        check.badArgument("no such flight", () -> x.cancel(4));
        check.badArgument("no such flight", () -> x.cancel(-1));
        x.cancel(0);
        check.badState("cancelled", () -> x.cancel(0));
        x.airborne(1);
        check.badState("airborne", () -> x.cancel(1));
        check.slot("nothing changed", x, 5, 0, 1);
        check.same("nothing logged", x.log(), 1);
    }

    private static void airborneFreezes() {
        LandingSlots x = fourIn();
        x.airborne(3);
        check.same("nothing logged", x.log(), 0);
        check.slot("it stays in its slot", x, 15, 1, 3);
        x.cancel(0);
        x.cancel(1);
        x.cancel(2);
        check.same("it has no gaps", x.gaps(), 0);
        check.same("it is not moved", x.compress(), 0);
        check.same("rationing leaves it", x.ration(), 0);
        check.slot("rationing leaves it", x, 15, 1, 3);
        check.same("its delay counts", x.delay(1), 12);
    }

    private static void airborneRefused() {
        LandingSlots x = fourIn();
        check.badArgument("no such flight", () -> x.airborne(4));
        check.badArgument("no such flight", () -> x.airborne(-1));
        x.airborne(0);
        check.badState("airborne", () -> x.airborne(0));
        x.cancel(1);
        check.badState("cancelled, so in no slot", () -> x.airborne(1));
        int waiting = x.flight(0, 0, 0);
        check.badState("in no slot", () -> x.airborne(waiting));
        check.yes("not airborne then", x.later(2, 11));
        check.badState("emptied", () -> x.airborne(2));
    }

    private static void swapChangesPlaces() {
        LandingSlots x = new LandingSlots();
        x.rate(0, 3);
        x.flight(2, 0, 0);
        x.flight(2, 1, 0);
        x.flight(3, 2, 0);
        x.ration();
        x.swap(1, 0);
        check.slot("swapped", x, 0, 2, 1);
        check.slot("swapped", x, 5, 2, 0);
        check.slot("not touched", x, 10, 3, 2);
        check.same("one entry", x.log(), 1);
        check.entry("swap", x, 0, LandingSlots.SWAPPED, 1, 5, 0);
        x.swap(1, 0);
        check.slot("swapped back", x, 0, 2, 0);
        check.entry("swap back", x, 1, LandingSlots.SWAPPED, 1, 0, 5);
        check.same("rationing forgets it", x.ration(), 0);
        check.slot("as scheduled", x, 0, 2, 0);
    }

    private static void swapRefusedArguments() {
        LandingSlots x = fourIn();
        check.badArgument("no such first", () -> x.swap(4, 0));
        check.badArgument("no such other", () -> x.swap(0, 4));
        check.badArgument("no such first", () -> x.swap(-1, 0));
        check.badArgument("no such other", () -> x.swap(0, -1));
        check.badArgument("one flight", () -> x.swap(0, 0));
        check.badArgument("two airlines", () -> x.swap(1, 2));
        x.cancel(1);
        check.badArgument("two airlines before no slot", () -> x.swap(1, 2));
        check.badArgument("one flight before no slot", () -> x.swap(1, 1));
        check.same("nothing logged but the cancelled one", x.log(), 1);
    }

    private static void swapRefusedStates() {
        LandingSlots x = fourIn();
        check.badState("the other cannot use the first's slot", () -> x.swap(0, 1));
        check.badState("the first cannot use the other's slot", () -> x.swap(1, 0));
        check.slot("nothing changed", x, 0, 0, 0);
        check.slot("nothing changed", x, 5, 0, 1);
        x.swap(2, 3);
        x.airborne(2);
        check.badState("the first is airborne", () -> x.swap(2, 3));
        check.badState("the other is airborne", () -> x.swap(3, 2));
        x.cancel(0);
        check.badState("the first is in no slot", () -> x.swap(0, 1));
        check.badState("the other is in no slot", () -> x.swap(1, 0));
        int waiting = x.flight(0, 0, 0);
        check.badState("neither is in a slot", () -> x.swap(0, waiting));
    }
}
