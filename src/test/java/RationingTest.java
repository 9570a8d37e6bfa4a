/** Promises 1 to 7: a new object, rate, flight, ration, slotOf, ownerOf, flightIn. */
public final class RationingTest {
    private static final int NONE = LandingSlots.NONE;
    private static final Checks check = new Checks();

    public static void main(String[] args) {
        newObject();
        slotsOfEachRate();
        rateOfEachQuarter();
        rateArguments();
        rateRations();
        rateTakesSlotOfFirstFlight();
        rateOfOneQuarterLeavesOthers();
        rateKeepsFrozenSlots();
        flightNumbersAndBounds();
        sixtyFlights();
        rationOrder();
        rationFirstUsableSlot();
        rationClearsAllButFrozen();
        rationCounts();
        slotOf();
        ownerOfAndFlightIn();
        check.finish();
    }

    private static void newObject() {
        LandingSlots x = new LandingSlots();
        for (int minute = -1; minute <= 240; minute++) {
            int m = minute;
            check.noElement("new: ownerOf " + m, () -> x.ownerOf(m));
            check.noElement("new: flightIn " + m, () -> x.flightIn(m));
        }
        check.badArgument("new: slotOf 0", () -> x.slotOf(0));
        check.badArgument("new: drop 0", () -> x.drop(0));
        check.same("new: owned -1", x.owned(NONE), 0);
        check.same("new: delay -1", x.delay(NONE), 0);
        check.same("new: log", x.log(), 0);
        check.same("new: gaps", x.gaps(), 0);
        check.same("new: trade", x.trade(), 0);
        check.same("new: compress", x.compress(), 0);
        check.same("new: ration", x.ration(), 0);
        LandingSlots y = new LandingSlots();
        y.rate(0, 1);
        check.noElement("objects share nothing", () -> x.ownerOf(0));
    }

    private static void slotsOfEachRate() {
        int[][] due = {
            {}, {0}, {0, 7}, {0, 5, 10}, {0, 3, 7, 11}, {0, 3, 6, 9, 12}, {0, 2, 5, 7, 10, 12},
            {0, 2, 4, 6, 8, 10, 12}, {0, 1, 3, 5, 7, 9, 11, 13}
        };
        LandingSlots x = new LandingSlots();
        for (int n = 0; n <= 8; n++) {
            check.same("rate 3 " + n, x.rate(3, n), 0);
            checkSlots(x, 45, due[n]);
            check.same("slots at rate " + n, x.owned(NONE), n);
        }
        for (int n = 8; n >= 0; n--) {
            x.rate(3, n);
            checkSlots(x, 45, due[n]);
        }
    }

    private static void checkSlots(LandingSlots x, int start, int[] offsets) {
        boolean[] due = new boolean[15];
        for (int offset : offsets) {
            due[offset] = true;
        }
        for (int offset = 0; offset < 15; offset++) {
            check.same("slot at " + (start + offset), isSlot(x, start + offset) ? 1 : 0, due[offset] ? 1 : 0);
        }
    }

    private static boolean isSlot(LandingSlots x, int minute) {
        try {
            x.ownerOf(minute);
            return true;
        } catch (java.util.NoSuchElementException e) {
            return false;
        }
    }

    private static void rateOfEachQuarter() {
        LandingSlots x = new LandingSlots();
        for (int quarter = 0; quarter < 16; quarter++) {
            check.same("rate " + quarter, x.rate(quarter, 2), 0);
            checkSlots(x, 15 * quarter, new int[] {0, 7});
        }
        check.same("all quarters", x.owned(NONE), 32);
        check.same("last slot", x.ownerOf(232), NONE);
    }

    private static void rateArguments() {
        LandingSlots x = new LandingSlots();
        check.badArgument("quarter -1", () -> x.rate(-1, 1));
        check.badArgument("quarter 16", () -> x.rate(16, 1));
        check.badArgument("rate -1", () -> x.rate(0, -1));
        check.badArgument("rate 9", () -> x.rate(0, 9));
        check.badArgument("great quarter", () -> x.rate(Integer.MAX_VALUE, 1));
        check.badArgument("great rate", () -> x.rate(0, Integer.MIN_VALUE));
        check.same("nothing changed", x.owned(NONE), 0);
        x.rate(0, 1);
        x.flight(0, 0, 0);
        x.ration();
        x.airborne(0);
        check.badArgument("bad rate before bad state", () -> x.rate(0, 9));
    }

    private static void rateRations() {
        LandingSlots x = new LandingSlots();
        x.flight(0, 0, 0);
        x.flight(1, 1, 0);
        x.flight(2, 2, 0);
        check.same("no slot for three", x.rate(0, 0), 3);
        check.same("one of three in", x.rate(0, 1), 2);
        check.slot("rated", x, 0, 0, 0);
        check.same("all in", x.rate(0, 3), 0);
        check.slot("rated", x, 10, 2, 2);
        x.cancel(0);
        check.same("logged", x.log(), 1);
        check.same("the same rate rations too", x.rate(0, 3), 0);
        check.same("log is empty again", x.log(), 0);
        check.slot("rationed anew", x, 0, 1, 1);
        check.slot("rationed anew", x, 10, NONE, NONE);
        check.same("a cancelled flight is not counted", x.rate(0, 1), 1);
        check.same("it lost its slot", x.slotOf(2), NONE);
        check.same("none is left", x.rate(0, 0), 2);
        check.same("no slots at all", x.slotOf(1), NONE);
        check.same("one again", x.rate(0, 1), 1);
        check.same("owners of lost slots are gone", x.owned(2), 0);
        x.airborne(1);
        check.same("an airborne flight is not counted", x.rate(1, 0), 1);
    }

    private static void rateTakesSlotOfFirstFlight() {
        LandingSlots x = new LandingSlots();
        x.rate(0, 1);
        x.flight(0, 0, 0);
        x.ration();
        check.same("in", x.slotOf(0), 0);
        check.same("out", x.rate(0, 0), 1);
        check.same("out", x.slotOf(0), NONE);
        check.same("no delay", x.delay(NONE), 0);
        check.badState("not to be airborne", () -> x.airborne(0));
    }

    private static void rateOfOneQuarterLeavesOthers() {
        LandingSlots x = new LandingSlots();
        x.rate(4, 8);
        x.rate(5, 3);
        x.rate(6, 8);
        x.rate(5, 0);
        check.same("two quarters left", x.owned(NONE), 16);
        checkSlots(x, 60, new int[] {0, 1, 3, 5, 7, 9, 11, 13});
        checkSlots(x, 75, new int[] {});
        checkSlots(x, 90, new int[] {0, 1, 3, 5, 7, 9, 11, 13});
    }

    private static void rateKeepsFrozenSlots() {
        LandingSlots x = new LandingSlots();
        x.rate(1, 3);
        x.flight(5, 20, 20);
        x.flight(6, 15, 15);
        x.ration();
        x.airborne(0);
        check.slot("frozen", x, 20, 5, 0);
        for (int n : new int[] {0, 1, 2, 4, 5, 7}) {
            check.badState("slot 20 would go at rate " + n, () -> x.rate(1, n));
        }
        check.slot("refused rates change nothing", x, 15, 6, 1);
        check.same("refused rates change nothing", x.owned(NONE), 1);
        check.same("slot 20 stays at rate 6", x.rate(1, 6), 0);
        check.slot("frozen", x, 20, 5, 0);
        check.same("slot 20 stays at rate 8", x.rate(1, 8), 0);
        check.slot("frozen", x, 20, 5, 0);
        check.same("other quarters are free", x.rate(2, 1), 0);
        check.same("other quarters are free", x.rate(0, 0), 0);
        LandingSlots y = new LandingSlots();
        y.rate(1, 1);
        y.flight(0, 15, 15);
        y.ration();
        y.airborne(0);
        check.badState("rate 0 has not even the first minute", () -> y.rate(1, 0));
        for (int n = 1; n <= 8; n++) {
            check.same("the first minute is a slot at rate " + n, y.rate(1, n), 0);
        }
        check.slot("still frozen", y, 15, 0, 0);
    }

    private static void flightNumbersAndBounds() {
        LandingSlots x = new LandingSlots();
        check.same("first", x.flight(0, 0, 0), 0);
        check.same("last airline", x.flight(7, 239, 300), 1);
        check.same("fifteen before", x.flight(1, 239, 224), 2);
        check.same("0 is more than scheduled - 15", x.flight(1, 14, 0), 3);
        check.same("15 - 15", x.flight(1, 15, 0), 4);
        check.same("16 - 15", x.flight(1, 16, 1), 5);
        check.badArgument("airline -1", () -> x.flight(-1, 0, 0));
        check.badArgument("airline 8", () -> x.flight(8, 0, 0));
        check.badArgument("scheduled -1", () -> x.flight(0, -1, 0));
        check.badArgument("scheduled 240", () -> x.flight(0, 240, 240));
        check.badArgument("scheduled far below", () -> x.flight(0, Integer.MIN_VALUE, 0));
        check.badArgument("earliest -1", () -> x.flight(0, 3, -1));
        check.badArgument("earliest 0 for 16", () -> x.flight(0, 16, 0));
        check.badArgument("earliest 223 for 239", () -> x.flight(0, 239, 223));
        check.badArgument("earliest 301", () -> x.flight(0, 239, 301));
        check.same("refused ones have no number", x.flight(0, 0, 0), 6);
        x.rate(0, 8);
        int added = x.flight(0, 0, 0);
        check.same("in no slot till rationing", x.slotOf(added), NONE);
    }

    private static void sixtyFlights() {
        LandingSlots x = new LandingSlots();
        for (int i = 0; i < 60; i++) {
            check.same("number", x.flight(i % 8, i, i), i);
        }
        check.badState("a 61st", () -> x.flight(0, 0, 0));
        check.badArgument("a bad argument comes first", () -> x.flight(8, 0, 0));
        check.badArgument("a bad argument comes first", () -> x.flight(0, 16, 0));
        x.cancel(0);
        check.badState("a cancelled one makes no room", () -> x.flight(0, 0, 0));
        check.badArgument("no flight 60", () -> x.slotOf(60));
        check.same("59 of them wait", x.ration(), 59);
    }

    private static void rationOrder() {
        LandingSlots x = new LandingSlots();
        x.rate(0, 4);
        x.rate(1, 4);
        x.flight(0, 9, 0);
        x.flight(1, 5, 0);
        x.flight(2, 9, 0);
        x.flight(3, 0, 0);
        x.flight(4, 5, 0);
        check.same("all in", x.ration(), 0);
        check.slot("by schedule, then by number", x, 0, 3, 3);
        check.slot("by schedule, then by number", x, 3, 1, 1);
        check.slot("by schedule, then by number", x, 7, 4, 4);
        check.slot("by schedule, then by number", x, 11, 0, 0);
        check.slot("by schedule, then by number", x, 15, 2, 2);
        check.slot("left over", x, 18, NONE, NONE);
    }

    private static void rationFirstUsableSlot() {
        LandingSlots x = new LandingSlots();
        x.rate(0, 3);
        x.flight(0, 0, 5);
        x.flight(1, 1, 6);
        x.flight(2, 2, 0);
        x.flight(3, 3, 0);
        x.flight(4, 4, 300);
        check.same("two are left without", x.ration(), 2);
        check.slot("not before its earliest minute", x, 5, 0, 0);
        check.slot("not before its earliest minute", x, 10, 1, 1);
        check.slot("an earlier slot for a later flight", x, 0, 2, 2);
        check.same("none left", x.slotOf(3), NONE);
        check.same("earliest behind the time", x.slotOf(4), NONE);
    }

    private static void rationClearsAllButFrozen() {
        LandingSlots x = new LandingSlots();
        x.rate(0, 3);
        x.rate(1, 3);
        x.flight(0, 1, 0);
        x.flight(1, 2, 0);
        x.flight(2, 3, 0);
        x.ration();
        x.airborne(1);
        x.cancel(2);
        x.flight(3, 0, 0);
        check.same("owner stays till rationing", x.ownerOf(10), 2);
        check.same("all in", x.ration(), 0);
        check.slot("the new first flight", x, 0, 3, 3);
        check.slot("frozen stays", x, 5, 1, 1);
        check.slot("moved behind the frozen one", x, 10, 0, 0);
        check.slot("no owner any more", x, 15, NONE, NONE);
        check.same("cancelled gets none", x.slotOf(2), NONE);
        check.same("log is empty", x.log(), 0);
    }

    private static void rationCounts() {
        LandingSlots x = new LandingSlots();
        x.rate(0, 2);
        for (int i = 0; i < 5; i++) {
            x.flight(0, i, 0);
        }
        check.same("three without", x.ration(), 3);
        x.airborne(0);
        check.same("airborne is in, the rest counts the same", x.ration(), 3);
        x.cancel(4);
        check.same("cancelled does not count", x.ration(), 2);
        x.later(1, 100);
        check.same("one that can use none leaves room", x.ration(), 2);
        check.same("for the next", x.slotOf(2), 7);
    }

    private static void slotOf() {
        LandingSlots x = new LandingSlots();
        x.rate(15, 8);
        x.flight(0, 239, 238);
        x.flight(0, 239, 239);
        x.ration();
        check.same("the last minute of all slots", x.slotOf(0), 238);
        check.same("none", x.slotOf(1), NONE);
        check.badArgument("flight -1", () -> x.slotOf(-1));
        check.badArgument("flight 2", () -> x.slotOf(2));
        check.badArgument("flight far off", () -> x.slotOf(Integer.MAX_VALUE));
    }

    private static void ownerOfAndFlightIn() {
        LandingSlots x = new LandingSlots();
        x.rate(0, 2);
        x.flight(4, 0, 0);
        x.flight(6, 1, 0);
        x.ration();
        x.cancel(1);
        check.slot("taken", x, 0, 4, 0);
        check.slot("owned and empty", x, 7, 6, NONE);
        for (int minute : new int[] {-1, 1, 6, 8, 15, 239, 240, Integer.MIN_VALUE, Integer.MAX_VALUE}) {
            check.noElement("ownerOf " + minute, () -> x.ownerOf(minute));
            check.noElement("flightIn " + minute, () -> x.flightIn(minute));
        }
    }
}
