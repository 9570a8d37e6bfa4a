/** Promises 17 to 20: delay, owned, log, entry. */
public final class SumsAndLogTest {
    private static final int NONE = LandingSlots.NONE;
    private static final Checks check = new Checks();

    public static void main(String[] args) {
        delays();
        delaysOfSixtyFlights();
        delayArguments();
        ownedCounts();
        ownedArguments();
        logCounts();
        logHasRoomForTwoHundred();
        tradesAndMovesInFullLog();
        entryArguments();
        refusedCallsLogNothing();
        check.finish();
    }

    private static void delays() {
        LandingSlots x = new LandingSlots();
        x.rate(0, 3);
        x.rate(1, 3);
        x.flight(0, 1, 0);
        x.flight(1, 2, 0);
        x.flight(0, 20, 6);
        x.flight(2, 21, 300);
        check.same("in no slots", x.delay(NONE), 0);
        x.ration();
        check.same("0 - 1 and 10 - 20", x.delay(0), -11);
        check.same("5 - 2", x.delay(1), 3);
        check.same("in no slot", x.delay(2), 0);
        check.same("no flights", x.delay(7), 0);
        check.same("all", x.delay(NONE), -8);
        x.cancel(2);
        check.same("a cancelled one counts no more", x.delay(0), -1);
        x.airborne(1);
        check.same("an airborne one counts", x.delay(1), 3);
        check.same("all", x.delay(NONE), 2);
    }

    private static void delaysOfSixtyFlights() {
        LandingSlots x = new LandingSlots();
        for (int quarter = 0; quarter < 16; quarter++) {
            x.rate(quarter, 5);
        }
        for (int i = 0; i < 60; i++) {
            x.flight(i % 2, 3 * i, 3 * i + 3);
        }
        x.ration();
        check.same("all three minutes late", x.delay(NONE), 180);
        check.same("half of them", x.delay(1), 90);
    }

    private static void delayArguments() {
        LandingSlots x = new LandingSlots();
        check.same("airline 0", x.delay(0), 0);
        check.same("airline 7", x.delay(7), 0);
        check.badArgument("airline 8", () -> x.delay(8));
        check.badArgument("airline -2", () -> x.delay(-2));
        check.badArgument("airline far off", () -> x.delay(Integer.MIN_VALUE));
    }

    private static void ownedCounts() {
        LandingSlots x = new LandingSlots();
        x.rate(0, 8);
        check.same("none owned", x.owned(NONE), 8);
        x.flight(7, 0, 0);
        x.flight(7, 1, 0);
        x.flight(0, 2, 0);
        check.same("not before rationing", x.owned(7), 0);
        x.ration();
        check.same("two", x.owned(7), 2);
        check.same("one", x.owned(0), 1);
        check.same("the rest", x.owned(NONE), 5);
        x.cancel(0);
        check.same("empty ones too", x.owned(7), 2);
        x.airborne(1);
        check.same("frozen ones too", x.owned(7), 2);
        x.ration();
        check.same("after rationing", x.owned(7), 1);
        check.same("after rationing", x.owned(NONE), 6);
    }

    private static void ownedArguments() {
        LandingSlots x = new LandingSlots();
        check.badArgument("airline 8", () -> x.owned(8));
        check.badArgument("airline -2", () -> x.owned(-2));
        check.badArgument("airline far off", () -> x.owned(Integer.MAX_VALUE));
    }

    private static void logCounts() {
        LandingSlots x = new LandingSlots();
        x.rate(0, 8);
        for (int i = 0; i < 6; i++) {
            x.flight(i / 2, i, 0);
        }
        x.ration();
        check.same("rationing logs nothing", x.log(), 0);
        x.swap(0, 1);
        x.offer(0, 0, 11);
        x.trade();
        x.later(2, 4);
        x.cancel(4);
        check.same("four entries", x.log(), 4);
        check.entry("in order", x, 0, LandingSlots.SWAPPED, 0, 0, 1);
        check.entry("in order", x, 1, LandingSlots.TRADED, 1, 0, 11);
        check.entry("in order", x, 2, LandingSlots.EMPTIED, 2, 3, NONE);
        check.entry("in order", x, 3, LandingSlots.LEFT, 4, 7, NONE);
        int moves = x.compress();
        check.same("one entry a move", x.log(), 4 + moves);
        check.same("moved", x.entry(4, 0), LandingSlots.MOVED);
        x.ration();
        check.same("since the last rationing", x.log(), 0);
        x.swap(0, 1);
        check.same("from the start again", x.log(), 1);
        check.entry("from the start again", x, 0, LandingSlots.SWAPPED, 0, 0, 1);
        x.rate(9, 1);
        check.same("a rate rations", x.log(), 0);
    }

    /** Two flights of one airline that can change places as often as one likes. */
    private static LandingSlots swapped(int times) {
        LandingSlots x = new LandingSlots();
        x.rate(0, 3);
        x.flight(0, 0, 0);
        x.flight(0, 1, 0);
        x.flight(1, 2, 0);
        x.ration();
        for (int i = 0; i < times; i++) {
            x.swap(i % 2, 1 - i % 2);
        }
        return x;
    }

    private static void logHasRoomForTwoHundred() {
        LandingSlots x = swapped(199);
        check.same("199", x.log(), 199);
        x.swap(0, 1);
        check.same("200", x.log(), 200);
        check.entry("the last", x, 199, LandingSlots.SWAPPED, 0, 5, 0);
        check.yes("a 201st is done", x.cancel(2));
        check.same("but not kept", x.log(), 200);
        check.entry("the last", x, 199, LandingSlots.SWAPPED, 0, 5, 0);
        check.entry("the first", x, 0, LandingSlots.SWAPPED, 0, 0, 5);
        check.refused("no entry 200", IndexOutOfBoundsException.class, () -> x.entry(200, 0));
        x.ration();
        check.same("room again", x.log(), 0);
        x.cancel(1);
        check.entry("room again", x, 0, LandingSlots.LEFT, 1, 5, NONE);
    }

    private static void tradesAndMovesInFullLog() {
        LandingSlots x = swapped(199);
        x.offer(1, 10, 0);
        x.offer(0, 0, 10);
        check.same("both are carried out", x.trade(), 2);
        check.same("only the first is kept", x.log(), 200);
        check.entry("only the first is kept", x, 199, LandingSlots.TRADED, 2, 10, 0);
        x.cancel(2);
        check.same("moves are done and counted all the same", x.compress(), 2);
        check.same("and not kept", x.log(), 200);
    }

    private static void entryArguments() {
        LandingSlots x = new LandingSlots();
        check.refused("empty log", IndexOutOfBoundsException.class, () -> x.entry(0, 0));
        LandingSlots y = swapped(2);
        check.refused("entry 2", IndexOutOfBoundsException.class, () -> y.entry(2, 0));
        check.refused("entry -1", IndexOutOfBoundsException.class, () -> y.entry(-1, 0));
        check.refused("no entry before no such part", IndexOutOfBoundsException.class, () -> y.entry(2, 4));
        check.badArgument("part 4", () -> y.entry(0, 4));
        check.badArgument("part -1", () -> y.entry(1, -1));
        check.badArgument("part far off", () -> y.entry(1, Integer.MAX_VALUE));
    }

    private static void refusedCallsLogNothing() {
        LandingSlots x = swapped(0);
        check.badArgument("swap", () -> x.swap(0, 2));
        check.badArgument("later", () -> x.later(0, 301));
        check.badArgument("cancel", () -> x.cancel(3));
        check.badArgument("rate", () -> x.rate(0, 9));
        check.same("nothing logged", x.log(), 0);
        x.cancel(2);
        check.badArgument("rate", () -> x.rate(0, 9));
        check.same("a refused rate does not empty the log", x.log(), 1);
        x.airborne(1);
        check.badState("rate", () -> x.rate(0, 2));
        check.same("a refused rate does not empty the log", x.log(), 1);
    }
}
